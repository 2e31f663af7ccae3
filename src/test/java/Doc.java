import java.io.IOException;
import java.nio.file.Files;
import java.nio.file.Path;

/** The words of the document, by its headings, so that a test can show which sentence it looks at. */
final class Doc {
    private static final Path FILE = Path.of("../shared/DOC.md");

    private Doc() {
    }

    /** Whether the words stand behind the heading that begins so, ahead of the next heading. */
    static boolean says(String heading, String words) {
        StringBuilder section = new StringBuilder();
        boolean inside = false;
        try {
            for (String line : Files.readAllLines(FILE)) {
                if (line.startsWith("#")) {
                    inside = isHeading(line, heading);
                } else if (inside) {
                    section.append(line).append(' ');
                }
            }
        } catch (IOException lost) {
            return false;
        }
        return plain(section.toString()).contains(plain(words));
    }

    private static boolean isHeading(String line, String heading) {
        String title = line.replaceFirst("#+ ", "");
        return title.equals(heading) || title.startsWith(heading + ":");
    }

    private static String plain(String words) {
        return words.replace("`", "").replaceAll("\\s+", " ").strip();
    }
}
