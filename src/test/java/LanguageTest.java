import java.io.IOException;
import java.nio.charset.StandardCharsets;
import java.nio.file.Files;
import java.nio.file.Path;
import java.util.List;

/**
 * Those rules of LANGUAGE.md that a look at the words of the program can tell; FaceTest has those of
 * its members. Read from the checkout's root, where .ci/run starts it.
 */
public final class LanguageTest {
    private static final Path PROGRAM = Path.of("src/main/java/GameCafe.java");
    /** What the language rules out, and what it allows but the program does without. */
    private static final List<String> FORBIDDEN = List.of(
            "package", "import", "try", "catch", "finally", "synchronized", "assert", "instanceof",
            "volatile", "native", "protected", "System", "Thread", "Random", "Object",
            "Integer", "String", "Throwable", "Exception", "Error", "equals", "hashCode", "toString");
    private static final List<String> THROWN = List.of(
            "IndexOutOfBoundsException", "IllegalArgumentException", "IllegalStateException");
    private static final int LONGEST_METHOD = 60;

    public static void main(String[] args) throws IOException {
        String text = Files.readString(PROGRAM, StandardCharsets.UTF_8);
        Due.is("all signs are 1 to 127", true, text.chars().allMatch(sign -> sign > 0 && sign < 128));
        String code = text.replaceAll("(?s)/\\*.*?\\*/", " ").replaceAll("//[^\\n]*", " ");
        String bare = code.replaceAll("\"[^\"\\n]*\"", "\"\"");
        words(bare);
        lambdas(bare);
        exceptions(bare);
        lengths(code);
        Due.end();
    }

    private static void words(String bare) {
        for (String word : bare.split("[^A-Za-z0-9_]+")) {
            Due.is("the word " + word + " is forbidden", false, FORBIDDEN.contains(word));
        }
    }

    private static void lambdas(String bare) {
        Due.is("a lambda", false, bare.contains("->"));
        Due.is("a method reference", false, bare.contains("::"));
        Due.is("a static block", false, bare.matches("(?s).*\\bstatic\\s*\\{.*"));
        Due.is("texts joined by +", false, bare.matches("(?s).*(\"\\s*\\+|\\+\\s*\").*"));
    }

    private static void exceptions(String bare) {
        String[] throwing = bare.split("\\bthrow\\b");
        for (int i = 1; i < throwing.length; i++) {
            String name = throwing[i].replaceAll("(?s)^\\s*new\\s+(\\w+)\\(\"\"\\);.*", "$1");
            Due.is("throw new " + name, true, THROWN.contains(name));
        }
    }

    private static void lengths(String code) {
        int from = 0;
        String[] lines = code.split("\\n");
        for (int i = 0; i < lines.length; i++) {
            if (lines[i].isBlank()) {
                from = i;
            }
            Due.is("more than " + LONGEST_METHOD + " lines without a gap, to line " + (i + 1), false,
                    i - from > LONGEST_METHOD);
        }
    }
}
