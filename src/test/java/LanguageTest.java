import java.io.IOException;
import java.nio.file.Files;
import java.nio.file.Path;

/** Rules of ../shared/LANGUAGE.md that can be seen from the words of the program alone. */
public final class LanguageTest {
    private static final String PROGRAM = "src/main/java/BentPins.java";
    /** The program needs no texts and no exceptions, so that none of their words may stand in it. */
    private static final String[] OUTSIDE = {
        "->", "::", "\"", "package ", "import java.util.*", "import static", "static {", "synchronized", "assert ",
        "throw", "try", "catch", "finally", "Exact(", "instanceof", "System.out", "System.err", "System.nano",
        "System.current", "Random", "Thread", "equals", "hashCode", "toString", "protected "};
    private static final int LONGEST_METHOD = 60;

    public static void main(String[] args) throws IOException {
        Check check = new Check("LanguageTest");
        int length = 0;
        int number = 0;
        boolean comment = false;
        for (String line : Files.readAllLines(Path.of(PROGRAM))) {
            number++;
            String code = line.strip();
            comment = comment || code.startsWith("/*");
            if (!comment && !code.startsWith("//")) {
                for (String word : OUTSIDE) {
                    check.holds("line " + number + " has no " + word, !code.contains(word));
                }
            }
            comment = comment && !code.endsWith("*/");
            length = code.isEmpty() ? 0 : length + 1;
            check.holds("line " + number + " ends a method of some sixty lines", length <= LONGEST_METHOD);
            for (int i = 0; i < line.length(); i++) {
                check.holds("line " + number + " has signs 1 to 127", line.charAt(i) < 128);
            }
        }
        check.holds("the program was read", number > 100);
        check.end();
    }
}
