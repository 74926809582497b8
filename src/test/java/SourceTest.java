import java.io.IOException;
import java.nio.file.Files;
import java.nio.file.Path;
import java.util.regex.Matcher;
import java.util.regex.Pattern;

/** Some rules of LANGUAGE.md that a look at the text of the class can see. */
final class SourceTest {
    private static final String[] FORBIDDEN = {
        "\\bthrow\\b", "\\btry\\b", "\\bcatch\\b", "\\bsynchronized\\b", "\\bassert\\b", "\\bimport\\s+(?!java\\.util\\.)", "->", "::",
        "\\bprotected\\b", "Exact\\b", "\\bvar\\b", "\\bthis\\.getClass\\b", "\\bstatic\\s*\\{",
    };

    private SourceTest() {
    }

    static void run() throws IOException {
        String source = Files.readString(Path.of("src/main/java/WordSupper.java"));
        String code = source.replaceAll("(?s)/\\*.*?\\*/", "").replaceAll("//.*", "");
        code = code.replaceAll("(?m)^\\s*(case\\b[^\\n]*?|default\\s*)->", "");
        for (String forbidden : FORBIDDEN) {
            Check.due("source: " + forbidden, Pattern.compile(forbidden).matcher(code).find() ? 1 : 0, 0);
        }
        noPrivateMethodBearsAPublicName(code);
    }

    private static void noPrivateMethodBearsAPublicName(String code) {
        Matcher face = Pattern.compile("public (?:int|long) (\\w+)\\(").matcher(code);
        int methods = 0;
        while (face.find()) {
            methods++;
            String other = "(?m)^\\s+(?!public|return)(?:private |static )*\\w+ " + face.group(1) + "\\([^;]*\\{";
            Check.due("source: a method beside " + face.group(1), Pattern.compile(other).matcher(code).find() ? 1 : 0, 0);
        }
        Check.due("source: methods of the face", methods, 43);
    }
}
