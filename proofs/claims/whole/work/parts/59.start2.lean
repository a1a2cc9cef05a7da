def sB : Nat → Nat → Int32 := fun _ _ => 0
def sN : Nat → Nat := fun _ => 0
def sRm : Nat → Nat := fun j => if j < 4 then j else 0
def sRd : Nat → Option Nat := fun j => if j < 3 then none else some 0
def p4 (a b c d : Nat) : Nat → Nat := fun i => if i = 0 then a else if i = 1 then b else if i = 2 then c else d
def p3 (a b c : Nat) : Nat → Nat := fun i => if i = 0 then a else if i = 1 then b else c
theorem sLive {a : Nat} (h : mLive sRm sRd a) : a = 0 ∨ a = 1 ∨ a = 2 ∨ a = 3 := by
  rcases h with ⟨r, hr, e⟩ | ⟨g, hg, e⟩
  · simp only [sRm, if_pos hr] at e
    omega
  · simp [sRd, hg] at e
set_option maxHeartbeats 4000000 in
theorem cI_start (k : Nat → ClassId) (L' : List Nat) (f' : Nat → va_E) (Z : Nat → Prop) (x aW aG aR h0 b0 h1 b1 h2 b2 h3 b3 u0 ur0 ub0 u1 ur1 ub1 u2 ur2 ub2 r0 w0 wb0 r1 w1 wb1 r2 w2 wb2 tr tw twb tg tur tub : Nat) (gW gG gR : Nat → Option Nat) (hZ : ∀ a, a ∈ L' → ¬ Z a) (y0 : x ∈ L') (y1 : f' x = .inr (3, [.ref aW, .ref aG, .ref aR, .ref tr, .ref tg])) (y2 : aW ∈ L') (y3 : f' aW = .inl (k 4, 4, .inr (.inr (.inr (.inr gW))))) (y4 : aG ∈ L') (y5 : f' aG = .inl (k 2, 3, .inr (.inr (.inr (.inr gG))))) (y6 : aR ∈ L') (y7 : f' aR = .inl (k 3, 3, .inr (.inr (.inr (.inr gR))))) (y8 : gW 0 = some h0) (y9 : iRow k L' f' h0 b0) (y10 : gW 1 = some h1) (y11 : iRow k L' f' h1 b1) (y12 : gW 2 = some h2) (y13 : iRow k L' f' h2 b2) (y14 : gW 3 = some h3) (y15 : iRow k L' f' h3 b3) (y16 : gG 0 = some u0) (y17 : iGat k L' f' u0 ur0 ub0) (y18 : gG 1 = some u1) (y19 : iGat k L' f' u1 ur1 ub1) (y20 : gG 2 = some u2) (y21 : iGat k L' f' u2 ur2 ub2) (y22 : gR 0 = some r0) (y23 : iRea k L' f' r0 w0 wb0) (y24 : gR 1 = some r1) (y25 : iRea k L' f' r1 w1 wb1) (y26 : gR 2 = some r2) (y27 : iRea k L' f' r2 w2 wb2) (y28 : iRea k L' f' tr tw twb) (y29 : iGat k L' f' tg tur tub) (y30 : h0 ≠ h1) (y31 : b0 ≠ b1) (y32 : h0 ≠ h2) (y33 : b0 ≠ b2) (y34 : h1 ≠ h2) (y35 : b1 ≠ b2) (y36 : h0 ≠ h3) (y37 : b0 ≠ b3) (y38 : h1 ≠ h3) (y39 : b1 ≠ b3) (y40 : h2 ≠ h3) (y41 : b2 ≠ b3) (y42 : b0 ≠ ub0) (y43 : b1 ≠ ub0) (y44 : b2 ≠ ub0) (y45 : b3 ≠ ub0) (y46 : tr ≠ r0) (y47 : tg ≠ u0) (y48 : tub ≠ ub0) (y49 : u0 ≠ u1) (y50 : ub0 ≠ ub1) (y51 : r0 ≠ r1) (y52 : b0 ≠ ub1) (y53 : b1 ≠ ub1) (y54 : b2 ≠ ub1) (y55 : b3 ≠ ub1) (y56 : tr ≠ r1) (y57 : tg ≠ u1) (y58 : tub ≠ ub1) (y59 : u0 ≠ u2) (y60 : ub0 ≠ ub2) (y61 : r0 ≠ r2) (y62 : u1 ≠ u2) (y63 : ub1 ≠ ub2) (y64 : r1 ≠ r2) (y65 : b0 ≠ ub2) (y66 : b1 ≠ ub2) (y67 : b2 ≠ ub2) (y68 : b3 ≠ ub2) (y69 : tr ≠ r2) (y70 : tg ≠ u2) (y71 : tub ≠ ub2) (y72 : tub ≠ b0) (y73 : tub ≠ b1) (y74 : tub ≠ b2) (y75 : tub ≠ b3) : cInv k L' f' Z x sB sN sRm sRd sN sN sB sN := by
  refine ⟨aW, aG, aR, tr, tg, gW, gG, gR, (p4 h0 h1 h2 h3), (p4 b0 b1 b2 b3), (p3 u0 u1 u2), (p3 ur0 ur1 ur2), (p3 ub0 ub1 ub2), (p3 r0 r1 r2), (fun _ _ => 0), (fun _ _ => 0), ?_⟩
  refine ⟨⟨⟨y0, hZ _ (y0)⟩, y1, ⟨y2, hZ _ (y2)⟩, y3, ⟨y4, hZ _ (y4)⟩, y5, ⟨y6, hZ _ (y6)⟩, y7⟩, fun r hr => ?_, fun a ha => ?_, fun a b ha hb => ?_, fun y hy => ?_, fun y z hy hz => ?_, fun q hq => ?_, fun y z hy hz => ?_, ?_, ?_, fun _ => Nat.zero_le _, fun _ _ => rfl⟩
  · rcases (show r = 0 ∨ r = 1 ∨ r = 2 ∨ r = 3 by omega) with rfl | rfl | rfl | rfl
    · exact ⟨by decide, y8⟩
    · exact ⟨by decide, y10⟩
    · exact ⟨by decide, y12⟩
    · exact ⟨by decide, y14⟩
  · rcases sLive ha with rfl | rfl | rfl | rfl
    · exact ⟨by decide, ⟨⟨y9.1, hZ _ (y9.1)⟩, y9.2.1, ⟨y9.2.2.1, hZ _ (y9.2.2.1)⟩, y9.2.2.2, (by decide), (fun _ => rfl)⟩, fun j hj => rfl⟩
    · exact ⟨by decide, ⟨⟨y11.1, hZ _ (y11.1)⟩, y11.2.1, ⟨y11.2.2.1, hZ _ (y11.2.2.1)⟩, y11.2.2.2, (by decide), (fun _ => rfl)⟩, fun j hj => rfl⟩
    · exact ⟨by decide, ⟨⟨y13.1, hZ _ (y13.1)⟩, y13.2.1, ⟨y13.2.2.1, hZ _ (y13.2.2.1)⟩, y13.2.2.2, (by decide), (fun _ => rfl)⟩, fun j hj => rfl⟩
    · exact ⟨by decide, ⟨⟨y15.1, hZ _ (y15.1)⟩, y15.2.1, ⟨y15.2.2.1, hZ _ (y15.2.2.1)⟩, y15.2.2.2, (by decide), (fun _ => rfl)⟩, fun j hj => rfl⟩
  · rcases sLive ha with rfl | rfl | rfl | rfl <;> rcases sLive hb with rfl | rfl | rfl | rfl
    · exact fun _ => rfl
    · exact fun e => absurd e y31
    · exact fun e => absurd e y33
    · exact fun e => absurd e y37
    · exact fun e => absurd e (Ne.symm y31)
    · exact fun _ => rfl
    · exact fun e => absurd e y35
    · exact fun e => absurd e y39
    · exact fun e => absurd e (Ne.symm y33)
    · exact fun e => absurd e (Ne.symm y35)
    · exact fun _ => rfl
    · exact fun e => absurd e y41
    · exact fun e => absurd e (Ne.symm y37)
    · exact fun e => absurd e (Ne.symm y39)
    · exact fun e => absurd e (Ne.symm y41)
    · exact fun _ => rfl
  · rcases (show y = 0 ∨ y = 1 ∨ y = 2 by omega) with rfl | rfl | rfl
    · exact ⟨y16, ⟨⟨y17.1, hZ _ (y17.1)⟩, y17.2.1, ⟨⟨y17.2.2.1, hZ _ (y17.2.2.1)⟩, y17.2.2.2.1, ⟨y17.2.2.2.2.1, hZ _ (y17.2.2.2.2.1)⟩, y17.2.2.2.2.2, (by decide), (fun _ => rfl)⟩, (by decide)⟩, fun j hj => rfl, fun a ha => by
        rcases sLive ha with rfl | rfl | rfl | rfl
        · exact y42
        · exact y43
        · exact y44
        · exact y45⟩
    · exact ⟨y18, ⟨⟨y19.1, hZ _ (y19.1)⟩, y19.2.1, ⟨⟨y19.2.2.1, hZ _ (y19.2.2.1)⟩, y19.2.2.2.1, ⟨y19.2.2.2.2.1, hZ _ (y19.2.2.2.2.1)⟩, y19.2.2.2.2.2, (by decide), (fun _ => rfl)⟩, (by decide)⟩, fun j hj => rfl, fun a ha => by
        rcases sLive ha with rfl | rfl | rfl | rfl
        · exact y52
        · exact y53
        · exact y54
        · exact y55⟩
    · exact ⟨y20, ⟨⟨y21.1, hZ _ (y21.1)⟩, y21.2.1, ⟨⟨y21.2.2.1, hZ _ (y21.2.2.1)⟩, y21.2.2.2.1, ⟨y21.2.2.2.2.1, hZ _ (y21.2.2.2.2.1)⟩, y21.2.2.2.2.2, (by decide), (fun _ => rfl)⟩, (by decide)⟩, fun j hj => rfl, fun a ha => by
        rcases sLive ha with rfl | rfl | rfl | rfl
        · exact y65
        · exact y66
        · exact y67
        · exact y68⟩
  · rcases (show y = 0 ∨ y = 1 ∨ y = 2 by omega) with rfl | rfl | rfl <;> rcases (show z = 0 ∨ z = 1 ∨ z = 2 by omega) with rfl | rfl | rfl
    · exact fun _ => rfl
    · exact fun e => absurd e y50
    · exact fun e => absurd e y60
    · exact fun e => absurd e (Ne.symm y50)
    · exact fun _ => rfl
    · exact fun e => absurd e y63
    · exact fun e => absurd e (Ne.symm y60)
    · exact fun e => absurd e (Ne.symm y63)
    · exact fun _ => rfl
  · rcases (show q = 0 ∨ q = 1 ∨ q = 2 by omega) with rfl | rfl | rfl
    · exact ⟨y22, ⟨y23.1, hZ _ (y23.1)⟩, fun a e => absurd e (by simp [sRd]), fun _ => ⟨w0, wb0, 0, 0, 0, 0, 0, (fun _ => 0), y23.2.1, ⟨⟨y23.2.2.1, hZ _ (y23.2.2.1)⟩, y23.2.2.2.1, ⟨y23.2.2.2.2.1, hZ _ (y23.2.2.2.2.1)⟩, y23.2.2.2.2.2, (by decide), (fun _ => rfl)⟩, Nat.le_refl _⟩⟩
    · exact ⟨y24, ⟨y25.1, hZ _ (y25.1)⟩, fun a e => absurd e (by simp [sRd]), fun _ => ⟨w1, wb1, 0, 0, 0, 0, 0, (fun _ => 0), y25.2.1, ⟨⟨y25.2.2.1, hZ _ (y25.2.2.1)⟩, y25.2.2.2.1, ⟨y25.2.2.2.2.1, hZ _ (y25.2.2.2.2.1)⟩, y25.2.2.2.2.2, (by decide), (fun _ => rfl)⟩, Nat.le_refl _⟩⟩
    · exact ⟨y26, ⟨y27.1, hZ _ (y27.1)⟩, fun a e => absurd e (by simp [sRd]), fun _ => ⟨w2, wb2, 0, 0, 0, 0, 0, (fun _ => 0), y27.2.1, ⟨⟨y27.2.2.1, hZ _ (y27.2.2.1)⟩, y27.2.2.2.1, ⟨y27.2.2.2.2.1, hZ _ (y27.2.2.2.2.1)⟩, y27.2.2.2.2.2, (by decide), (fun _ => rfl)⟩, Nat.le_refl _⟩⟩
  · rcases (show y = 0 ∨ y = 1 ∨ y = 2 by omega) with rfl | rfl | rfl <;> rcases (show z = 0 ∨ z = 1 ∨ z = 2 by omega) with rfl | rfl | rfl
    · exact fun _ => rfl
    · exact fun e => absurd e y51
    · exact fun e => absurd e y61
    · exact fun e => absurd e (Ne.symm y51)
    · exact fun _ => rfl
    · exact fun e => absurd e y64
    · exact fun e => absurd e (Ne.symm y61)
    · exact fun e => absurd e (Ne.symm y64)
    · exact fun _ => rfl
  · exact ⟨tw, twb, 0, 0, 0, 0, 0, 0, (fun _ => 0), ⟨y28.1, hZ _ (y28.1)⟩, y28.2.1, ⟨⟨y28.2.2.1, hZ _ (y28.2.2.1)⟩, y28.2.2.2.1, ⟨y28.2.2.2.2.1, hZ _ (y28.2.2.2.2.1)⟩, y28.2.2.2.2.2, (by decide), (fun _ => rfl)⟩, Nat.le_refl _, fun q hq => by
      rcases (show q = 0 ∨ q = 1 ∨ q = 2 by omega) with rfl | rfl | rfl
      · exact y46
      · exact y56
      · exact y69⟩
  · exact ⟨tur, tub, 0, (fun _ => 0), ⟨⟨y29.1, hZ _ (y29.1)⟩, y29.2.1, ⟨⟨y29.2.2.1, hZ _ (y29.2.2.1)⟩, y29.2.2.2.1, ⟨y29.2.2.2.2.1, hZ _ (y29.2.2.2.2.1)⟩, y29.2.2.2.2.2, (by decide), (fun _ => rfl)⟩, (by decide)⟩, fun y hy => (by
      rcases (show y = 0 ∨ y = 1 ∨ y = 2 by omega) with rfl | rfl | rfl
      · exact y48
      · exact y58
      · exact y71), fun a ha => (by
      rcases sLive ha with rfl | rfl | rfl | rfl
      · exact (Ne.symm y72)
      · exact (Ne.symm y73)
      · exact (Ne.symm y74)
      · exact (Ne.symm y75))⟩
