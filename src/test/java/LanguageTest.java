import java.io.IOException;
import java.nio.file.Files;
import java.nio.file.Path;
import java.util.Set;
import java.util.regex.Matcher;
import java.util.regex.Pattern;

/** The source holds no word that LANGUAGE.md rules out, and names no class of the library but what it lists. */
public final class LanguageTest {
    private static final Path SOURCE = Path.of("src/main/java/TimingLights.java");
    private static final Set<String> RULED_OUT = Set.of("import", "package", "throw", "throws", "try", "catch",
            "finally", "synchronized", "assert", "volatile", "native", "protected", "Object", "Thread", "Runtime",
            "Random", "Float", "Double", "Boolean", "Character", "Exception", "RuntimeException", "hashCode",
            "toString");
    private static final Pattern SPARE = Pattern.compile("/\\*.*?\\*/|//[^\n]*|\"[^\"\n]*\"|'[^'\n]*'", Pattern.DOTALL);
    private static final Pattern WORD = Pattern.compile("[A-Za-z_]\\w*");
    private static final Pattern CALL_OF_SYSTEM = Pattern.compile("\\bSystem\\s*\\.\\s*(\\w+)");

    public static void main(String[] args) throws IOException {
        String whole = Files.readString(SOURCE);
        String source = SPARE.matcher(whole).replaceAll(" ");
        words(source);
        signs(source);
        for (char sign : whole.toCharArray()) {
            Check.due("the sign " + (int) sign + " is 1 to 127", sign >= 1 && sign <= 127 ? 1 : 0, 1);
        }
        Check.end();
    }

    private static void words(String source) {
        Matcher word = WORD.matcher(source);
        while (word.find()) {
            Check.due("the word " + word.group() + " is ruled out", RULED_OUT.contains(word.group()) ? 1 : 0, 0);
        }
        Matcher call = CALL_OF_SYSTEM.matcher(source);
        while (call.find()) {
            Check.due(call.group() + " is arraycopy", call.group(1).equals("arraycopy") ? 1 : 0, 1);
        }
    }

    private static void signs(String source) {
        for (String sign : new String[] {"->", "::", "@", "Exact(", "static {"}) {
            Check.due("the source holds " + sign, source.contains(sign) ? 1 : 0, 0);
        }
    }
}
