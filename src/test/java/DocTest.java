import java.io.IOException;
import java.nio.file.Files;
import java.nio.file.Path;
import java.util.ArrayList;
import java.util.List;
import java.util.regex.Matcher;
import java.util.regex.Pattern;
import java.util.stream.Stream;

/** The face; and whether every word of the promises and of the Terms is quoted by a test of its own (*BoundsTest). */
public final class DocTest {
    private static final String ROOT = System.getProperty("project.root", ".");
    private static final Path DOC = Path.of(ROOT, "../shared/DOC.md");
    private static final Pattern QUOTE = Pattern.compile(
            "(?:says\\(\\s*(\\d+)\\s*,|says\\(\\s*\"[^\"]*\"\\s*,|terms\\()\\s*(\"[^\"]*\"(?:\\s*\\+\\s*\"[^\"]*\")*)");

    private final List<String> ofTerms = new ArrayList<>();
    private final List<List<String>> ofPromises = new ArrayList<>();

    public static void main(String[] args) throws IOException {
        if (!Files.isReadable(DOC)) {
            System.out.println("no document here");
            return;
        }
        DocTest test = new DocTest();
        face();
        test.readQuotes();
        test.promises();
        test.terms();
        Check.finish();
    }

    private static String plain(String text) {
        return text.replace("`", "").replaceAll("\\s+", " ");
    }

    /** The class has each line of the face as the document writes it, and nothing else that is public. */
    private static void face() throws IOException {
        String doc = Files.readString(DOC);
        String source = Files.readString(Path.of(ROOT, "src/main/java/EdgeWalk.java"));
        Matcher m = Pattern.compile("(?m)^ *(public [^\n]*?)(;| \\{)$").matcher(doc);
        int lines = 0;
        while (m.find()) {
            boolean constant = m.group(1).contains(" = ");
            String line = m.group(1) + (constant ? ";" : " {");
            Check.due("the class has " + line, source.contains(line) ? 1 : 0, 1);
            lines++;
        }
        Check.due("lines of the face", lines, 39);
        Check.due("public in the class", source.split("\\bpublic\\b", -1).length - 1, lines);
    }

    private void readQuotes() throws IOException {
        for (int n = 0; n <= 37; n++) {
            ofPromises.add(new ArrayList<>());
        }
        try (Stream<Path> files = Files.list(Path.of(ROOT, "src/test/java"))) {
            for (Path file : files.filter(f -> f.toString().endsWith("BoundsTest.java")).toList()) {
                Matcher m = QUOTE.matcher(Files.readString(file));
                while (m.find()) {
                    String quote = plain(m.group(2).replaceAll("\"\\s*\\+\\s*\"", "").replace("\"", ""));
                    (m.group(1) == null ? ofTerms : ofPromises.get(Integer.parseInt(m.group(1)))).add(quote);
                }
            }
        }
    }

    private void promises() throws IOException {
        String doc = Files.readString(DOC);
        Matcher m = Pattern.compile("## Promise (\\d+): [^\n]*\\s*`[^`]*`: ([^\n]*)").matcher(doc);
        int found = 0;
        while (m.find()) {
            found++;
            quoted("promise " + m.group(1), plain(m.group(2)), ofPromises.get(Integer.parseInt(m.group(1))));
        }
        Check.due("promises", found, 37);
    }

    private void terms() throws IOException {
        String doc = Files.readString(DOC);
        String terms = doc.substring(doc.indexOf("A SHEET is a text"), doc.indexOf("The constants:"));
        quoted("terms", plain(terms.replaceAll("```(text)?", "").replaceAll("==== (II|III)\\.", "")), ofTerms);
    }

    /** Tells each run of words that lies in no quote. */
    private static void quoted(String where, String text, List<String> quotes) {
        boolean[] covered = new boolean[text.length()];
        for (String quote : quotes) {
            for (int at = text.indexOf(quote); at >= 0; at = text.indexOf(quote, at + 1)) {
                for (int i = at; i < at + quote.length(); i++) {
                    covered[i] = true;
                }
            }
        }
        StringBuilder bare = new StringBuilder();
        for (int i = 0; i < text.length(); i++) {
            bare.append(covered[i] ? '\n' : text.charAt(i));
        }
        for (String run : bare.toString().split("\n+")) {
            boolean words = run.matches(".*[A-Za-z0-9].*");
            Check.due(where + ": no test quotes '" + run + "'", words ? 1 : 0, 0);
        }
    }
}
