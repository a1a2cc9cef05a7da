import java.io.IOException;
import java.nio.file.Files;
import java.nio.file.Path;
import java.util.Set;
import java.util.TreeSet;
import java.util.regex.Matcher;
import java.util.regex.Pattern;

/**
 * The rules of LANGUAGE.md that can be seen in the text of the program, narrower than they are where the program
 * needs no more: what it comes to need may be let in here, as far as the rule lets it in.
 * It is run from the checkout's root, as .ci/run does.
 */
public final class LanguageTest {
    private static final int MOST_LINES_OF_A_METHOD = 60;
    private static final int MOST_PARAMETERS = 7;
    private static final int MOST_CLASSES = 12;

    private static final Set<String> EXCEPTIONS = Set.of(
        "IllegalStateException", "IllegalArgumentException", "IndexOutOfBoundsException", "ArithmeticException",
        "UnsupportedOperationException", "NoSuchElementException");
    private static final Set<String> LIBRARY = Set.of("System.arraycopy", "Math.min", "Math.max");

    /** Of rules 1, 2, 4, 5, 6 and 13. */
    private static final String[] FORBIDDEN = {
        "package", "try", "catch", "finally", "synchronized", "assert", "instanceof", "static\\s*\\{", "->", "::",
        "equals", "hashCode", "toString", "Object", "Thread", "java\\.io", "java\\.nio", "native", "volatile",
    };

    private static final Pattern METHOD = Pattern.compile(
        "(?m)^( +)((?:public |private |static |final )*)(?:[\\w\\[\\]]+ )?(\\w+)\\(([^)]*)\\)\\s*(?:throws [\\w,\\s]+)?\\{");

    private LanguageTest() {
    }

    public static void main(String[] args) throws IOException {
        String text = Files.readString(Path.of("src/main/java/Bytewell.java"));
        String code = withoutCommentsAndTexts(text);
        signsArePlain(text);
        importsAndLibraryAreListed(code);
        nothingForbidden(code);
        exceptionsAreListed(code);
        staticFieldsAreConstants(code);
        methodsAreShort(code);
        Check.due("classes are at most " + MOST_CLASSES, count(code, "\\bclass \\w+") <= MOST_CLASSES, true);
        Check.finish();
    }

    /** The lines stay what they were. */
    private static String withoutCommentsAndTexts(String text) {
        Matcher comment = Pattern.compile("(?s)/\\*.*?\\*/").matcher(text);
        String code = comment.replaceAll(found -> found.group().replaceAll("[^\n]", ""));
        return code.replaceAll("\"[^\"\n]*\"", "\"\"").replaceAll("//[^\n]*", "");
    }

    private static int count(String code, String pattern) {
        return (int) Pattern.compile(pattern).matcher(code).results().count();
    }

    private static void signsArePlain(String text) {
        Check.due("signs that are not 1 to 127", text.chars().filter(sign -> sign < 1 || sign > 127).count(), 0L);
    }

    private static void importsAndLibraryAreListed(String code) {
        Set<String> imports = found(code, "(?m)^import (.*);");
        Check.due("imports", imports, Set.of("java.util.NoSuchElementException"));
        Set<String> used = found(code, "\\b([A-Z]\\w*\\.[a-z]\\w*)");
        used.removeAll(LIBRARY);
        Check.due("what is used of the library and is not listed", used, Set.of());
    }

    private static void nothingForbidden(String code) {
        for (String word : FORBIDDEN) {
            String pattern = Character.isLetter(word.charAt(0)) ? "\\b" + word : word;
            String end = Character.isLetter(word.charAt(word.length() - 1)) ? "\\b" : "";
            Check.due("how often there is " + word, count(code, pattern + end), 0);
        }
    }

    private static void exceptionsAreListed(String code) {
        Set<String> thrown = found(code, "\\bthrow new (\\w+)\\(\"?\"?\\);");
        Check.due("each throw is of a new one with a written text or none",
            count(code, "\\bthrow new \\w+\\((?:\"\")?\\);"), count(code, "\\bthrow\\b"));
        thrown.removeAll(EXCEPTIONS);
        Check.due("exceptions that are not listed", thrown, Set.of());
    }

    private static void staticFieldsAreConstants(String code) {
        Check.due("each static field is a private constant, an int",
            count(code, "(?m)^.*\\bstatic\\b[^({\\n]*[=;]"),
            count(code, "(?m)^ +private static final int [A-Z_]+ = -?\\d+;"));
    }

    private static void methodsAreShort(String code) {
        Matcher method = METHOD.matcher(code);
        int methods = 0;
        while (method.find()) {
            String name = method.group(3);
            if (!method.group(2).isEmpty() || !Set.of("if", "for", "while", "switch").contains(name)) {
                methods++;
                String given = method.group(4).trim();
                int parameters = given.isEmpty() ? 0 : given.split(",").length;
                Check.due("parameters of " + name + " are at most 7", parameters <= MOST_PARAMETERS, true);
                int end = code.indexOf("\n" + method.group(1) + "}", method.end());
                int lines = count(code.substring(method.start(), Math.max(method.start(), end)), "\n");
                Check.due("end of " + name + " is found", end > 0, true);
                Check.due("lines of " + name + " are at most 60", lines <= MOST_LINES_OF_A_METHOD, true);
            }
        }
        Check.due("methods are found", methods > count(code, "(?m)^    public "), true);
    }

    private static Set<String> found(String code, String pattern) {
        Set<String> found = new TreeSet<>();
        Matcher matcher = Pattern.compile(pattern).matcher(code);
        while (matcher.find()) {
            found.add(matcher.group(1));
        }
        return found;
    }
}
