import java.lang.reflect.InvocationTargetException;
import java.lang.reflect.Method;
import java.lang.reflect.Modifier;
import java.util.Arrays;
import java.util.Comparator;

/** LANGUAGE.md, rule 7: no call throws, whatever its arguments, in whatever state; and far ones are refused. */
public final class FarArgumentsTest {
    private static final int[] FAR = {Integer.MIN_VALUE, Integer.MIN_VALUE + 1, -715827883, -1073741824, -65536, -1000,
        100000, 65536, 1073741824, 715827883, Integer.MAX_VALUE - 1, Integer.MAX_VALUE};
    private static final int[] NEAR = {-3, -2, -1, 0, 1, 2, 3, 4, 5, 6, 9, 10, 12, 13, 20, 21, 35, 36, 40, 41, 60, 61, 99,
        100, 101, 400, 401, 9999, 10000};

    /** A call, the answer due if one of its numbers lies far off, and numbers that do not. */
    private static final String[] CALLS = {"end -1 5", "force -2 0", "goer -2 0 0", "join -1 0 0", "stoneIn -1 0",
        "give -1 0 5", "way -1 0 1", "stone -1 0", "fold -1 0 1", "ahead -2 0 5 0", "home -1 0", "gone -1 5",
        "leastFood -1 0 5", "meet -1 0 1", "shortest -1 0 5", "seen -1 0 5", "longest -1 5 0", "bestFold -1 5 0",
        "bestStone -1 5 0", "rests -1 0 1 5 0", "ring -1 0", "bread -1 50 0", "note -2 5 0 5", "ruled -3 0", "look -1 5 0",
        "folds -3 0", "gusts -1 3 9 50 0", "count -1 0", "image -1 1", "back -1 0"};

    public static void main(String[] args) throws ReflectiveOperationException {
        for (String row : CALLS) {
            farIsRefused(row.split(" "));
        }
        for (EdgeWalk walk : states()) {
            anyArguments(walk);
        }
        Check.finish();
    }

    private static Method[] face() {
        return Arrays.stream(EdgeWalk.class.getDeclaredMethods()).filter(m -> Modifier.isPublic(m.getModifiers()))
                .sorted(Comparator.comparing(Method::getName)).toArray(Method[]::new);
    }

    private static int call(Method m, EdgeWalk walk, int[] numbers) throws ReflectiveOperationException {
        try {
            return (Integer) m.invoke(walk, Arrays.stream(numbers).boxed().toArray());
        } catch (InvocationTargetException e) {
            Check.due(m.getName() + Arrays.toString(numbers) + " throws " + e.getCause(), 1, 0);
            return 0;
        }
    }

    private static void farIsRefused(String[] row) throws ReflectiveOperationException {
        int[] told = Arrays.stream(row).skip(1).mapToInt(Integer::parseInt).toArray();
        int[] near = Arrays.copyOfRange(told, 1, told.length);
        Method m = Arrays.stream(face()).filter(f -> f.getName().equals(row[0])).findFirst().orElseThrow();
        for (int i = 0; i < near.length; i++) {
            EdgeWalk asked = Twin.busy();
            for (int far : FAR) {
                int[] numbers = near.clone();
                numbers[i] = far;
                Check.due(row[0] + Arrays.toString(numbers), call(m, asked, numbers), told[0]);
            }
            Twin.same(row[0] + " with far numbers", Twin.busy(), asked);
        }
    }

    private static EdgeWalk[] states() {
        EdgeWalk full = Check.walk("sheet 6" + ";goer 35 1 60".repeat(5) + ";join 1 0 9", "turn 1", "turn step*99999",
                "turn 7/food", "turn 7%been", "turn here", "turn 0-cell");
        for (int k = 0; k < 20; k++) {
            full.feed(-1, 0, 1, k, -k);
        }
        EdgeWalk lost = Check.walk("sheet 2;goer 0 0 0;goer 1 0 0");
        Check.steps(lost, 3);
        return new EdgeWalk[] {new EdgeWalk(), Check.walk("sheet 2"), Twin.busy(), full, lost};
    }

    /** Every call with every two of near and far numbers, one behind another. */
    private static void anyArguments(EdgeWalk walk) throws ReflectiveOperationException {
        int[] all = Arrays.copyOf(FAR, FAR.length + NEAR.length);
        System.arraycopy(NEAR, 0, all, FAR.length, NEAR.length);
        for (Method m : face()) {
            for (int k = 0; k < all.length * all.length; k++) {
                int[] numbers = new int[m.getParameterCount()];
                for (int i = 0; i < numbers.length; i++) {
                    numbers[i] = all[(i % 2 == 0 ? k / all.length : k) % all.length];
                }
                call(m, walk, numbers);
            }
        }
        Check.due("it goes on", walk.end(0), 0);
    }
}
