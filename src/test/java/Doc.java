import java.io.IOException;
import java.nio.file.Files;
import java.nio.file.Path;

/** The document, so that a test that quotes a sentence of it quotes one that stands there. */
final class Doc {
    private static final Path PATH = Path.of(System.getProperty("project.root", "."), "../shared/DOC.md");
    private static String[] sections;

    private Doc() {
    }

    /** Whether a section, told by the begin of its heading, has this quote; true where there is no document. */
    static boolean says(String heading, String quote) {
        if (!Files.isReadable(PATH)) {
            return true;
        }
        for (String section : sections()) {
            if (section.startsWith(heading) && section.contains(plain(quote))) {
                return true;
            }
        }
        return false;
    }

    private static String[] sections() {
        if (sections == null) {
            try {
                sections = plain(Files.readString(PATH)).split("## ");
            } catch (IOException e) {
                throw new IllegalStateException(e);
            }
        }
        return sections;
    }

    private static String plain(String text) {
        return text.replace("`", "").replaceAll("\\s+", " ");
    }
}
