import java.nio.file.Files;
import java.nio.file.Path;
import java.util.regex.Matcher;
import java.util.regex.Pattern;

/** What of LANGUAGE.md shows in the program's text. */
public final class LanguageTest {
    private static final String[] WORDS = {"throw", "throws", "try", "catch", "finally", "synchronized", "assert",
        "package", "volatile", "transient", "native", "Object", "Integer\\.valueOf", "hashCode", "equals", "toString",
        "Thread", "Random", "Exact", "System\\.(?!arraycopy)", "import (?!java\\.util\\.Arrays;)"};

    public static void main(String[] args) throws Exception {
        String text = Files.readString(Path.of("src/main/java/NobodyCanLiftIt.java"));
        String code = bare(text);
        for (String w : WORDS) {
            Due.isTrue("no " + w, !Pattern.compile("(?<![A-Za-z])" + w + "(?![A-Za-z])").matcher(code).find());
        }
        for (String sign : new String[] {"->", "::", "@", "\" +", "+ \"", "default {"}) {
            Due.isTrue("no " + sign, !code.contains(sign));
        }
        for (char c : text.toCharArray()) {
            Due.isTrue("signs 10 and 32 to 126", c == '\n' || c >= 32 && c < 127);
        }
        methodsAreShort(text);
        Due.end();
    }

    /** Without comments and what stands in quotes. */
    private static String bare(String text) {
        Matcher m = Pattern.compile("/\\*.*?\\*/|//[^\n]*|\"[^\"\n]*\"|'[^'\n]*'", Pattern.DOTALL).matcher(text);
        return m.replaceAll("\"\"");
    }

    private static void methodsAreShort(String text) {
        int start = -1;
        int depth = 0;
        String[] lines = text.split("\n");
        for (int i = 0; i < lines.length; i++) {
            Due.isTrue("line " + (i + 1) + " of 120 signs at most", lines[i].length() <= 120);
            if (lines[i].matches(" {4,8}[A-Za-z].*\\) \\{") && start < 0) {
                start = i;
                depth = lines[i].indexOf(lines[i].trim());
            } else if (start >= 0 && lines[i].equals(" ".repeat(depth) + "}")) {
                Due.isTrue("sixty lines at most from line " + (start + 1), i - start < 60);
                start = -1;
            }
        }
        Due.is("the last method ends", start, -1);
    }
}
