import java.lang.reflect.InvocationTargetException;
import java.lang.reflect.Method;
import java.lang.reflect.Modifier;
import java.util.ArrayList;
import java.util.Arrays;
import java.util.List;

/** Long runs of calls, made by a fixed rule, answered by WordBench and by PlainBench: each answer must be the same. */
public final class AgainstPlainTest {
    private static final int CALLS = 512;

    private long state;
    private PlainBench plain;

    public static void main(String[] args) throws Exception {
        int runs = args.length > 0 ? Integer.parseInt(args[0]) : 300;
        int first = args.length > 1 ? Integer.parseInt(args[1]) : 1;
        for (int seed = first; seed < first + runs; seed++) {
            if (!new AgainstPlainTest().agrees(seed)) {
                System.exit(1);
            }
        }
        System.out.println("AgainstPlainTest: " + runs + " runs agree");
    }

    private boolean agrees(int seed) throws Exception {
        state = seed * 0x9E3779B97F4A7C15L + 12345;
        plain = new PlainBench();
        WordBench bench = new WordBench();
        List<Method> calls = new ArrayList<>();
        for (Method m : WordBench.class.getDeclaredMethods()) {
            if (Modifier.isPublic(m.getModifiers())) {
                calls.add(m);
            }
        }
        calls.sort((a, b) -> a.getName().compareTo(b.getName()));
        List<String> told = new ArrayList<>();
        // Some runs keep to short words, so that more of the calls meet.
        int longest = new int[] {3, 4, 5, 7, 12}[any(5)];
        int field = any(3) == 0 ? 0 : 2 + any(4);
        for (int k = 0; k < CALLS; k++) {
            Method call = any(3) == 0 ? named(calls, building()) : calls.get(any(calls.size()));
            Object[] values = values(call.getName(), field, longest);
            Method other = PlainBench.class.getDeclaredMethod(call.getName(), call.getParameterTypes());
            String due = answer(other, plain, values);
            String got = answer(call, bench, values);
            told.add(call.getName() + Arrays.toString(values) + " -> " + got);
            if (!due.equals(got)) {
                System.out.println("seed " + seed + ":");
                told.forEach(System.out::println);
                System.out.println("due is " + due);
                return false;
            }
        }
        return true;
    }

    private String building() {
        return new String[] {"make", "add", "add", "add", "add", "ring", "join", "longer", "dual"}[any(9)];
    }

    private static Method named(List<Method> calls, String name) {
        for (Method m : calls) {
            if (m.getName().equals(name)) {
                return m;
            }
        }
        throw new AssertionError(name);
    }

    private static String answer(Method call, Object on, Object[] values) throws Exception {
        try {
            return call.invoke(on, values).toString();
        } catch (InvocationTargetException thrown) {
            return "throws." + thrown.getCause().getClass().getSimpleName();
        }
    }

    // ---- arguments

    private int any(int below) {
        state = state * 6364136223846793005L + 1442695040888963407L;
        return (int) Math.floorMod(state >>> 33, (long) below);
    }

    private int odd() {
        return new int[] {-1, -2, Integer.MIN_VALUE, Integer.MAX_VALUE, 13, 12, 6, 61, 64, 100}[any(10)];
    }

    private boolean rarely() {
        return any(40) == 0;
    }

    private int place() {
        return rarely() ? odd() : any(20) == 0 ? any(12) : any(5);
    }

    /** A place with a code, if a few tries find one. */
    private int full() {
        int p = place();
        for (int i = 0; i < 6 && (!PlainBench.place(p) || plain.codes[p] == null); i++) {
            p = place();
        }
        return p;
    }

    private PlainBench.Plain at(int p) {
        return PlainBench.place(p) ? plain.codes[p] : null;
    }

    private int shelf() {
        return rarely() ? odd() : any(6);
    }

    private int within(int low, int high) {
        return rarely() ? odd() : any(15) == 0 ? low - 1 + any(2) * (high - low + 2) : low + any(high - low + 1);
    }

    private long word(int q, int n) {
        if (rarely()) {
            return new long[] {-1, Long.MIN_VALUE, Long.MAX_VALUE, PlainBench.all(q, n), 1L << 40}[any(5)];
        }
        long some = any(1 << 30);
        return any(4) == 0 ? some % Math.min(PlainBench.all(q, n), 20) : some % PlainBench.all(q, n);
    }

    /** A word for add: of OWN codes one that may stay, if some tries find it. */
    private long wordFor(PlainBench.Plain c) {
        long word = word(c.q, c.n);
        for (int i = 0; c.kind == 3 && i < 60; i++) {
            if (!PlainBench.isWord(c.q, c.n, word)) {
                return word;
            }
            int[] w = PlainBench.letters(c.q, c.n, word);
            boolean fits = PlainBench.productOf(c.q, w, w) == 0;
            for (int[] row : c.rows) {
                fits = fits && PlainBench.productOf(c.q, w, row) == 0;
            }
            if (fits) {
                return word;
            }
            word = word(c.q, c.n);
        }
        return word;
    }

    private long turn(int n) {
        List<Integer> order = new ArrayList<>();
        for (int i = 0; i < n; i++) {
            order.add(any(i + 1), i);
        }
        long turn = 0;
        for (int i = 0; i < n; i++) {
            turn |= (long) order.get(i) << (4 * i);
        }
        switch (any(12)) {
            case 0:
                return turn | 1L << (4 * n);
            case 1:
                return turn ^ 1L << (4 * any(n));
            case 2:
                return -turn - any(2);
            default:
                return turn;
        }
    }

    private Object[] values(String name, int field, int longest) {
        int q = rarely() ? new int[] {1, 6, 0, -1, odd()}[any(5)] : field != 0 && any(10) != 0 ? field : 2 + any(4);
        int n = rarely() ? new int[] {0, 13, -1, odd()}[any(4)] : 1 + any(longest);
        int fine = PlainBench.field(q, n) ? 1 : 0;
        int fq = fine == 1 ? q : 3;
        int fn = fine == 1 ? n : 3;
        int p = full();
        PlainBench.Plain c = at(p);
        int cq = c == null ? 3 : c.q;
        int cn = c == null ? 3 : c.n;
        switch (name) {
            case "make":
                return new Object[] {place(), rarely() ? odd() : new int[] {0, 1, 1, 3, 3, 2}[any(6)], q, n};
            case "add":
                return new Object[] {p, c == null ? word(3, 3) : wordFor(c)};
            case "ring":
                return new Object[] {place(), q, n, word(fq, fn)};
            case "empty":
                return new Object[] {any(4) == 0 ? place() : 5 + any(7)};
            case "look":
                return new Object[] {p, within(0, 5)};
            case "word":
                return new Object[] {p, within(0, c == null ? 2 : c.rows.size())};
            case "in":
            case "checks":
                return new Object[] {p, word(cq, cn)};
            case "sum":
                return new Object[] {q, n, word(fq, fn), word(fq, fn), within(0, fq - 1)};
            case "way":
            case "product":
                return new Object[] {q, n, word(fq, fn), word(fq, fn)};
            case "head":
                return new Object[] {p, within(0, 4)};
            case "dual":
            case "longer":
            case "list":
                return new Object[] {p, place()};
            case "weights":
            case "law":
                return new Object[] {p, within(0, cn)};
            case "bound":
                return new Object[] {q, n, within(1, fn), within(0, 1)};
            case "read":
                return new Object[] {p, word(cq, cn), any(2) == 0 ? 0 : within(0, (1 << cn) - 1)};
            case "near":
                return new Object[] {p, word(cq, cn), within(0, cn)};
            case "cut":
            case "shorter":
                return new Object[] {p, within(0, cn - 1), place()};
            case "join":
                return new Object[] {p, full(), within(0, 2), place()};
            case "turn":
                return new Object[] {p, turn(cn), within(1, cq - 1), place()};
            case "same":
                return new Object[] {p, full()};
            case "design":
                return new Object[] {p, within(0, cn), any(3) == 0 ? 1 << any(cn) : within(0, (1 << cn) - 1)};
            case "keep":
                return new Object[] {shelf(), within(0, 4), p, within(0, c == null ? 2 : c.rows.size())};
            case "row":
                return new Object[] {shelf(), within(3, 4), any(3) == 0 ? within(0, 60) : within(0, 5)};
            case "element":
                return new Object[] {shelf(), within(0, 6)};
            case "copy":
                return new Object[] {shelf(), within(0, 4), shelf(), within(0, 4), within(0, 5)};
            case "heft":
            case "toss":
                return new Object[] {shelf()};
            default:
                return new Object[] {p};
        }
    }
}
