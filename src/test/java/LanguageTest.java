import java.io.IOException;
import java.lang.reflect.Constructor;
import java.lang.reflect.Field;
import java.lang.reflect.Method;
import java.lang.reflect.Modifier;
import java.nio.file.Files;
import java.nio.file.Path;
import java.util.Set;
import java.util.TreeSet;
import java.util.regex.Matcher;
import java.util.regex.Pattern;

/** The rules of LANGUAGE.md that can be seen from outside, and the document's face. */
public final class LanguageTest {
    private static final String FACE = "feed5 end1 sheet0 rule0 force1 goer2 join2 stoneIn1 step0 give2 way2 stone1 fold2 "
        + "undo0 ahead3 home1 gone1 leastFood2 meet2 shortest2 seen2 longest2 bestFold2 bestStone2 rests4 ring1 bread2 "
        + "note3 ruled1 look2 folds1 seed1 gusts4 count1 image1 back1";

    public static void main(String[] args) throws IOException {
        face();
        nested();
        source();
        Check.finish();
    }

    private static void face() {
        Set<String> want = new TreeSet<>(Set.of(FACE.split(" ")));
        Set<String> got = new TreeSet<>();
        Set<String> hidden = new TreeSet<>();
        for (Method m : EdgeWalk.class.getDeclaredMethods()) {
            if (Modifier.isPublic(m.getModifiers())) {
                got.add(m.getName() + m.getParameterCount());
                Check.due(m + " answers an int", m.getReturnType() == int.class ? 1 : 0, 1);
                Check.due(m + " is of the object", Modifier.isStatic(m.getModifiers()) ? 1 : 0, 0);
            } else {
                hidden.add(m.getName());
                Check.due(m + " is private", Modifier.isPrivate(m.getModifiers()) ? 1 : 0, 1);
            }
            Check.due(m + " parameters", m.getParameterCount() <= 7 ? 1 : 0, 1);
        }
        Check.due("the face is the document's: " + got, got.equals(want) ? 1 : 0, 1);
        for (String name : hidden) {
            boolean shared = want.stream().anyMatch(w -> w.substring(0, w.length() - 1).equals(name));
            Check.due("a private method has a public name: " + name, shared ? 1 : 0, 0);
        }
        for (Field f : EdgeWalk.class.getDeclaredFields()) {
            boolean right = Modifier.isPrivate(f.getModifiers()) || f.getName().equals("NONE");
            Check.due("field " + f.getName(), right ? 1 : 0, 1);
        }
        for (Constructor<?> c : EdgeWalk.class.getDeclaredConstructors()) {
            Check.due("constructor", Modifier.isPublic(c.getModifiers()) && c.getParameterCount() == 0 ? 1 : 0, 1);
        }
        Check.due("final", Modifier.isFinal(EdgeWalk.class.getModifiers()) ? 1 : 0, 1);
    }

    private static void nested() {
        Class<?>[] inside = EdgeWalk.class.getDeclaredClasses();
        Check.due("classes", inside.length <= 11 ? 1 : 0, 1);
        for (Class<?> c : inside) {
            Check.due(c + " is static", Modifier.isStatic(c.getModifiers()) ? 1 : 0, 1);
            Check.due(c + " is not public", Modifier.isPublic(c.getModifiers()) ? 1 : 0, 0);
            int fields = 0;
            for (Field f : c.getDeclaredFields()) {
                boolean constant = Modifier.isStatic(f.getModifiers());
                fields += constant ? 0 : 1;
                Check.due(f + " changes", constant && !Modifier.isFinal(f.getModifiers()) ? 1 : 0, 0);
            }
            Check.due(c + " fields", fields <= 20 ? 1 : 0, 1);
            for (Method m : c.getDeclaredMethods()) {
                boolean shared = (" " + FACE.replaceAll("\\d", "") + " ").contains(" " + m.getName() + " ");
                Check.due("a public name is used inside: " + m, shared ? 1 : 0, 0);
                Check.due(m + " parameters", m.getParameterCount() <= 7 ? 1 : 0, 1);
            }
        }
    }

    private static void source() throws IOException {
        String root = System.getProperty("project.root", ".");
        String text = Files.readString(Path.of(root, "src/main/java/EdgeWalk.java"));
        for (int k = 0; k < text.length(); k++) {
            if (text.charAt(k) > 126) {
                Check.due("a sign beyond 126 at " + k, text.charAt(k), 126);
            }
        }
        String bare = text.replaceAll("(?s)/\\*.*?\\*/", "").replaceAll("//[^\n]*", "").replaceAll("\"[^\"]*\"", "\"\"");
        String[] ruledOut = {"\\bthrow\\b", "\\bthrows\\b", "\\btry\\b", "\\bcatch\\b", "\\bsynchronized\\b",
            "\\bassert\\b", "->", "::", "\\bimport\\b", "\\bpackage\\b", "\\bnew\\s+\\w+\\s*\\(\\)\\s*\\{", "@",
            "Exact\\b", "\\bprotected\\b", "\\bdouble\\b", "\\bfloat\\b", "\"\"\\s*\\+", "\\+\\s*\"\"",
            "\\bSystem\\.(?!arraycopy)", "\\bMath\\.(?!max|min)", "\\bstatic\\s*\\{", "hashCode", "toString"};
        for (String pattern : ruledOut) {
            Matcher m = Pattern.compile(pattern).matcher(bare);
            Check.due("ruled out: " + pattern, m.find() ? 1 : 0, 0);
        }
        methodLengths(text);
    }

    private static void methodLengths(String text) {
        int begin = 0;
        int line = 0;
        String name = "";
        for (String row : text.split("\n")) {
            line++;
            if (row.matches("( {4}| {8})(?! ).*\\) \\{")) {
                begin = line;
                name = row.trim();
            } else if (row.matches("( {4}| {8})\\}")) {
                Check.due("length of " + name, begin == 0 || line - begin <= 60 ? 1 : 0, 1);
                begin = 0;
            }
        }
    }
}
