section CMORE
variable {l : Launch} {y : MethodName} {cc : ByteArray} {nL : Nat} {ret : Option FieldType} {fr lo mc ms mc' ms' : Nat} {D : va_G} {cl : List vw_C} {tys : List (ClassId × FieldType)} {sb : Nat} {av : List Value} {ws ws2 : va_W} {Post Post' : Option Value → va_W → Prop}
theorem roomMore {s : State} {pl : Platform} {r r' : Room} (hf : r.frames ≤ r'.frames) (hl : r.locals ≤ r'.locals) (hc : r.cells ≤ r'.cells) (hs : r.slots ≤ r'.slots) (h : s.hasRoom pl r' = true) : s.hasRoom pl r = true := by
  simp only [State.hasRoom, Bool.and_eq_true, decide_eq_true_eq] at h ⊢
  obtain ⟨⟨⟨⟨y, a, b, c, d, e⟩, f⟩, g⟩, i⟩ := h
  exact ⟨⟨⟨⟨by omega, by omega, by omega, by omega, by omega, e⟩, by omega⟩, by omega⟩, i⟩
/-- a contract holds with more room -/
theorem vCt.more (h : vCt l y cc nL ret fr lo mc ms D cl tys sb av ws Post) (hc : mc ≤ mc') (hs : ms ≤ ms') : vCt l y cc nL ret fr lo mc' ms' D cl tys sb av ws Post := by
  intro p e ha hcs hk s m args below hfr happ hP hK
  obtain ⟨a1, a2, a3, a4, a5, a6, a7, a8⟩ := (Spec.appliesLoose_iff hfr).mp happ
  obtain ⟨n, o, h1, h2, h3, h4, Lc, ⟨f1, f2, f3⟩, hL⟩ := h p e ha hcs hk s m args below hfr ((Spec.appliesLoose_iff hfr).mpr ⟨a1, a2, a3, a4, a5, a6, roomMore (r := { frames := fr, cells := mc, slots := ms, locals := lo }) (r' := { frames := fr, cells := mc', slots := ms', locals := lo }) (Nat.le_refl fr) (Nat.le_refl lo) hc hs a7, a8⟩) hP hK
  exact ⟨n, o, h1, h2, h3, h4, Lc, ⟨f1, f2, f3.mono hc hs⟩, hL⟩
end CMORE
