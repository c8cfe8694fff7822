import java.lang.reflect.InvocationTargetException;
import java.lang.reflect.Method;
import java.lang.reflect.Modifier;
import java.util.ArrayList;
import java.util.Arrays;
import java.util.Comparator;
import java.util.List;
import java.util.Random;

/** No call throws, whatever its arguments and however many calls came before, and two like runs answer alike. */
public final class WildTest {
    private static final int[] EDGES = {Integer.MIN_VALUE, Integer.MIN_VALUE + 1, -1000000, -1, 0, 1, 2, 3, 4, 7, 8,
        11, 12, 59, 60, 61, 100, 119, 120, 121, 122, 1000000, Integer.MAX_VALUE - 1, Integer.MAX_VALUE};

    public static void main(String[] args) throws ReflectiveOperationException {
        List<Method> calls = new ArrayList<>();
        for (Method m : GoldenKeeper.class.getDeclaredMethods()) {
            if (Modifier.isPublic(m.getModifiers())) {
                calls.add(m);
            }
        }
        calls.sort(Comparator.comparing(Method::getName));
        for (int seed = 0; seed < 200; seed++) {
            run(calls, seed);
        }
        longestRows();
        mostChanges();
        manyGroups();
        Due.end("WildTest");
    }

    private static void run(List<Method> calls, int seed) throws ReflectiveOperationException {
        Random random = new Random(seed);
        GoldenKeeper x = new GoldenKeeper(random.nextInt());
        GoldenKeeper twin = new GoldenKeeper(x.count(6));
        for (int i = 0; i < 3000; i++) {
            Method m = calls.get(random.nextInt(calls.size()));
            Object[] a = new Object[m.getParameterCount()];
            for (int k = 0; k < a.length; k++) {
                a[k] = random.nextInt(4) == 0 ? EDGES[random.nextInt(EDGES.length)] : random.nextInt(3);
            }
            try {
                Due.is(m.getName() + " of the twin", (int) m.invoke(twin, a), (int) m.invoke(x, a));
            } catch (InvocationTargetException e) {
                Due.isTrue(m.getName() + Arrays.toString(a) + " threw " + e.getCause(), false);
                return;
            }
        }
    }

    private static void longestRows() {
        for (int rules = 0; rules < 8; rules++) {
            GoldenKeeper x = new GoldenKeeper(rules);
            int[] a = new int[60];
            int[] b = new int[60];
            for (int i = 0; i < 60; i++) {
                a[i] = i;
                b[i] = 99 - i % 30;
            }
            Due.keep(x, 0, 0, a);
            Due.give(x, 0, 0, b);
            Due.is("nothing stays", x.cost(0, 0), 120);
            Due.change(x, 0, 0, 0, 0, 60, 0, 60, 0);
            Due.is("last that goes", x.shape(0, 0, 59), 59);
            Due.is("last that comes", x.shape(0, 1, 59), b[59]);
            Due.is("approve", x.approve(0, 0, 0, 0, 0), 0);
            Due.tokens("done", x, 0, 0, 0, b);
        }
    }

    /** Forty CHANGES of each NAME and PLATFORM are the most that there can be. */
    private static void mostChanges() {
        GoldenKeeper x = new GoldenKeeper(0);
        int[] a = new int[60];
        int[] b = new int[59];
        // twenty CHANGES by one that goes, twenty by one that comes, a staying one between each two
        for (int i = 0; i < 20; i++) {
            a[3 * i] = 98;
            a[3 * i + 1] = b[3 * i] = 2 * i;
            b[3 * i + 1] = 99;
            a[3 * i + 2] = 2 * i + 1;
            if (i < 19) {
                b[3 * i + 2] = 2 * i + 1;
            }
        }
        a[59] = 97;
        b[58] = 99;
        Due.fill(x, 0, a);
        Due.fill(x, 1, b);
        for (int slot = 0; slot < 36; slot++) {
            x.keep(slot / 3, slot % 3, 0);
            x.give(slot / 3, slot % 3, 1);
        }
        Due.is("changes of all", x.count(5), 36 * 40);
        Due.is("groups", x.groups(), 3);
        Due.is("of the first", x.group(0, 0), 36 * 20);
        Due.is("go all", x.approveAll(0, 0, 0), 0);
        Due.entry(x, 0, 0, 0, 36 * 20, 36 * 20, 0, 36);
        Due.is("come all", x.approveAll(0, 0, 0), 1);
        Due.is("the rest", x.approveAll(0, 0, 0), 2);
        Due.is("all are SAME", x.states(2), 36);
        Due.is("undo", x.undo(), 2);
        Due.is("undo", x.undo(), 1);
        Due.is("undo", x.undo(), 0);
        Due.is("changes of all again", x.count(5), 36 * 40);
    }

    /** A hundred and twenty SHAPES, each of one TOKEN, in three answers. */
    private static void manyGroups() {
        GoldenKeeper x = new GoldenKeeper(0);
        for (int p = 0; p < 3; p++) {
            int[] a = new int[60];
            int[] b = new int[59];
            for (int i = 0; i < 20; i++) {
                a[3 * i] = 40 + 20 * p + i;
                a[3 * i + 1] = b[3 * i] = 2 * i;
                b[3 * i + 1] = 40 + 20 * ((p + 1) % 3) + i;
                a[3 * i + 2] = 2 * i + 1;
                if (i < 19) {
                    b[3 * i + 2] = 2 * i + 1;
                }
            }
            Due.keep(x, 5, p, Arrays.copyOf(a, 59));
            Due.give(x, 5, p, b);
        }
        Due.is("groups", x.groups(), 120);
        for (int g = 0; g < 120; g += 7) {
            Due.is("of one change", x.group(g, 0), 1);
            Due.is("its platform", x.group(g, 4), g / 40);
            Due.is("which it is there", x.group(g, 5), g % 40);
        }
        Due.is("the last group", x.change(5, 2, 39, 4), 119);
    }

    private WildTest() { }
}
