import java.io.IOException;
import java.nio.file.Files;
import java.nio.file.Path;
import java.util.Arrays;
import java.util.List;
import java.util.Set;
import java.util.TreeSet;

/** Rules of LANGUAGE.md that the program's words alone can show; run from the project's folder. */
public final class LanguageTest {
    private static final Due DUE = new Due();
    private static final Path PROGRAM = Path.of("src/main/java/RelayTrays.java");

    private static final List<String> NO_WORDS = List.of(
        "throw", "throws", "try", "catch", "finally", "synchronized", "assert", "import", "package", "native",
        "volatile", "transient", "var", "yield", "float", "double", "Float", "Double", "Object", "System", "Thread",
        "Random", "equals", "hashCode", "toString", "RuntimeException", "Exception");
    private static final List<String> NO_SIGNS = List.of("->", "::", "@", "Exact(", "static {");

    public static void main(String[] args) throws IOException {
        String text = Files.readString(PROGRAM);
        DUE.holds("the text holds characters 0 to 255 alone", text.chars().allMatch(sign -> sign <= 255));
        String code = text.replaceAll("(?s)/\\*.*?\\*/", " ").replaceAll("//[^\n]*", " ");
        Set<String> words = new TreeSet<>(Arrays.asList(code.split("\\W+")));
        DUE.holds("the program was read", words.contains("RelayTrays"));
        for (String word : NO_WORDS) {
            DUE.holds("the word " + word + " does not stand in the program", !words.contains(word));
        }
        for (String sign : NO_SIGNS) {
            DUE.holds("the sign " + sign + " does not stand in the program", !code.contains(sign));
        }
        DUE.end("LanguageTest");
    }
}
