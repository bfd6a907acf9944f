import java.util.ArrayList;
import java.util.Arrays;
import java.util.List;
import java.util.TreeSet;

/** The document in its plainest form, letter by letter and word by word: slow, and written apart from WordBench. */
final class PlainBench {
    /** A code: its kind, letters, length, and its words or rows. */
    static final class Plain {
        final int kind;
        final int q;
        final int n;
        final List<int[]> rows = new ArrayList<>();

        Plain(int kind, int q, int n) {
            this.kind = kind;
            this.q = q;
            this.n = n;
        }

        boolean listed() {
            return kind == 0;
        }
    }

    final Plain[] codes = new Plain[12];
    final Object[] shelf = new Object[6];

    // ---- letters and words

    static int plus(int q, int a, int b) {
        return q == 4 ? a ^ b : (a + b) % q;
    }

    private static final int[][] OF_FOUR = {{0, 0, 0, 0}, {0, 1, 2, 3}, {0, 2, 3, 1}, {0, 3, 1, 2}};

    static int times(int q, int a, int b) {
        return q == 4 ? OF_FOUR[a][b] : a * b % q;
    }

    /** The letter x with a + x = 0. */
    static int against(int q, int a) {
        for (int x = 0; x < q; x++) {
            if (plus(q, a, x) == 0) {
                return x;
            }
        }
        throw new AssertionError();
    }

    /** The letter x with b times x = a. */
    static int over(int q, int a, int b) {
        for (int x = 0; x < q; x++) {
            if (times(q, b, x) == a) {
                return x;
            }
        }
        throw new AssertionError();
    }

    static long all(int q, int n) {
        long all = 1;
        for (int i = 0; i < n; i++) {
            all *= q;
        }
        return all;
    }

    static int[] letters(int q, int n, long number) {
        int[] w = new int[n];
        for (int i = n - 1; i >= 0; i--) {
            w[i] = (int) (number % q);
            number /= q;
        }
        return w;
    }

    static long number(int q, int[] w) {
        long number = 0;
        for (int letter : w) {
            number = number * q + letter;
        }
        return number;
    }

    static int[] sumOf(int q, int[] a, int[] b, int c) {
        int[] s = new int[a.length];
        for (int i = 0; i < s.length; i++) {
            s[i] = plus(q, a[i], times(q, b[i], c));
        }
        return s;
    }

    static int productOf(int q, int[] a, int[] b) {
        int s = 0;
        for (int i = 0; i < a.length; i++) {
            s = plus(q, s, times(q, a[i], b[i]));
        }
        return s;
    }

    static int wayOf(int[] a, int[] b) {
        int way = 0;
        for (int i = 0; i < a.length; i++) {
            way += a[i] != b[i] ? 1 : 0;
        }
        return way;
    }

    static boolean field(int q, int n) {
        return q >= 2 && q <= 5 && n >= 1 && n <= 12;
    }

    static boolean isWord(int q, int n, long word) {
        return word >= 0 && word < all(q, n);
    }

    static boolean place(int p) {
        return p >= 0 && p <= 11;
    }

    // ---- forms, by the words of the document

    /** The FORM of rows; heads are told in the list. */
    static List<int[]> formOf(int q, int n, List<int[]> rows, List<Integer> heads) {
        List<int[]> unused = new ArrayList<>();
        for (int[] r : rows) {
            unused.add(r.clone());
        }
        List<int[]> used = new ArrayList<>();
        for (int p = 0; p < n; p++) {
            int[] next = null;
            for (int[] r : unused) {
                if (r[p] != 0) {
                    next = r;
                    break;
                }
            }
            if (next == null) {
                continue;
            }
            unused.remove(next);
            int by = next[p];
            for (int i = 0; i < n; i++) {
                next[i] = over(q, next[i], by);
            }
            for (List<int[]> some : List.of(used, unused)) {
                for (int k = 0; k < some.size(); k++) {
                    some.set(k, sumOf(q, some.get(k), next, against(q, some.get(k)[p])));
                }
            }
            used.add(next);
            heads.add(p);
        }
        return used;
    }

    static List<int[]> formOf(Plain c) {
        return formOf(c.q, c.n, c.rows, new ArrayList<>());
    }

    static List<int[]> dualOf(Plain c) {
        List<Integer> heads = new ArrayList<>();
        List<int[]> form = formOf(c.q, c.n, c.rows, heads);
        List<int[]> dual = new ArrayList<>();
        for (int p = 0; p < c.n; p++) {
            if (heads.contains(p)) {
                continue;
            }
            int[] w = new int[c.n];
            w[p] = 1;
            for (int k = 0; k < heads.size(); k++) {
                while (productOf(c.q, form.get(k), w) != 0) {
                    w[heads.get(k)]++;
                }
            }
            dual.add(w);
        }
        return dual;
    }

    static long many(Plain c) {
        return c.listed() ? c.rows.size() : all(c.q, formOf(c).size());
    }

    /** All words, of lines by numbers; null: spent. */
    static List<int[]> wordsOf(Plain c) {
        if (c.listed()) {
            return c.rows;
        }
        if (many(c) > 4096) {
            return null;
        }
        TreeSet<Long> numbers = new TreeSet<>();
        numbers.add(0L);
        for (int[] r : c.rows) {
            for (long w : new ArrayList<>(numbers)) {
                for (int letter = 1; letter < c.q; letter++) {
                    numbers.add(number(c.q, sumOf(c.q, letters(c.q, c.n, w), r, letter)));
                }
            }
        }
        List<int[]> words = new ArrayList<>();
        for (long w : numbers) {
            words.add(letters(c.q, c.n, w));
        }
        return words;
    }

    static boolean hasWord(Plain c, int[] w) {
        if (c.listed()) {
            for (int[] other : c.rows) {
                if (Arrays.equals(other, w)) {
                    return true;
                }
            }
            return false;
        }
        List<int[]> more = new ArrayList<>(c.rows);
        more.add(w);
        return formOf(c.q, c.n, more, new ArrayList<>()).size() == formOf(c).size();
    }

    /** COUNTS; null: spent. */
    static long[] countsOf(Plain c) {
        List<int[]> words = wordsOf(c);
        if (words == null) {
            return null;
        }
        long[] counts = new long[c.n + 1];
        if (words.size() > 250) {
            for (int[] w : words) {
                counts[wayOf(w, new int[c.n])]++;
            }
            return counts;
        }
        for (int[] a : words) {
            for (int[] b : words) {
                counts[wayOf(a, b)]++;
            }
        }
        boolean whole = !words.isEmpty();
        for (long count : counts) {
            whole = whole && count % words.size() == 0;
        }
        for (int w = 0; whole && w <= c.n; w++) {
            counts[w] /= words.size();
        }
        return counts;
    }

    static int leastOf(Plain c) {
        List<int[]> words = wordsOf(c);
        int least = 0;
        int[] zero = new int[c.n];
        for (int i = 0; i < words.size(); i++) {
            for (int j = 0; j < (c.listed() ? i : 1); j++) {
                int way = wayOf(words.get(i), c.listed() ? words.get(j) : zero);
                if (way > 0 && (least == 0 || way < least)) {
                    least = way;
                }
            }
        }
        return least;
    }

    private int come(int to, Plain c) {
        codes[to] = c;
        return c.rows.size();
    }

    // ---- the calls

    public int make(int p, int kind, int q, int n) {
        if (!place(p) || kind != 0 && kind != 1 && kind != 3 || !field(q, n)) {
            return -1;
        }
        codes[p] = new Plain(kind, q, n);
        return 0;
    }

    public int add(int p, long word) {
        if (!place(p)) {
            return -1;
        }
        Plain c = codes[p];
        if (c == null) {
            return -11;
        }
        if (!isWord(c.q, c.n, word)) {
            return -1;
        }
        if (c.kind == 2) {
            return -12;
        }
        int[] w = letters(c.q, c.n, word);
        if (c.kind == 0 && hasWord(c, w)) {
            return -3;
        }
        if (c.kind == 3) {
            List<int[]> others = new ArrayList<>(c.rows);
            others.add(w);
            for (int[] other : others) {
                if (productOf(c.q, other, w) != 0) {
                    return -3;
                }
            }
        }
        if (c.rows.size() >= (c.kind == 0 ? 200 : 12)) {
            return -6;
        }
        c.rows.add(w);
        return c.rows.size();
    }

    public int ring(int p, int q, int n, long polynomial) {
        if (!place(p) || !field(q, n) || polynomial <= 0 || polynomial >= all(q, n)) {
            return -1;
        }
        List<Integer> of = new ArrayList<>();
        for (long rest = polynomial; rest > 0; rest /= q) {
            of.add((int) (rest % q));
        }
        Plain c = new Plain(2, q, n);
        int degree = of.size() - 1;
        for (int i = 0; i < n - degree; i++) {
            int[] row = new int[n];
            for (int k = 0; k <= degree; k++) {
                row[i + k] = of.get(k);
            }
            c.rows.add(row);
        }
        return come(p, c);
    }

    public int empty(int p) {
        if (!place(p)) {
            return -1;
        }
        int had = codes[p] == null ? 0 : 1;
        codes[p] = null;
        return had;
    }

    public int look(int p, int what) {
        if (!place(p) || what < 0 || what > 5) {
            return -1;
        }
        Plain c = codes[p];
        if (c == null) {
            return -11;
        }
        if (what < 4) {
            return new int[] {c.kind, c.q, c.n, c.rows.size()}[what];
        }
        if (c.listed()) {
            return -12;
        }
        if (what == 4) {
            return formOf(c).size();
        }
        for (int[] a : c.rows) {
            for (int[] b : c.rows) {
                if (productOf(c.q, a, b) != 0) {
                    return 0;
                }
            }
        }
        return 1;
    }

    public long word(int p, int i) {
        if (!place(p)) {
            throw new IllegalArgumentException();
        }
        Plain c = codes[p];
        if (c == null || i < 0 || i >= c.rows.size()) {
            throw new IllegalStateException();
        }
        return number(c.q, c.rows.get(i));
    }

    public long size(int p) {
        if (!place(p)) {
            return -1;
        }
        return codes[p] == null ? -11 : many(codes[p]);
    }

    public int in(int p, long word) {
        if (!place(p)) {
            return -1;
        }
        Plain c = codes[p];
        if (c == null) {
            return -11;
        }
        if (!isWord(c.q, c.n, word)) {
            return -1;
        }
        return hasWord(c, letters(c.q, c.n, word)) ? 1 : 0;
    }

    public long sum(int q, int n, long a, long b, int c) {
        if (!field(q, n) || !isWord(q, n, a) || !isWord(q, n, b) || c < 0 || c >= q) {
            return -1;
        }
        return number(q, sumOf(q, letters(q, n, a), letters(q, n, b), c));
    }

    public int way(int q, int n, long a, long b) {
        if (!field(q, n) || !isWord(q, n, a) || !isWord(q, n, b)) {
            return -1;
        }
        return wayOf(letters(q, n, a), letters(q, n, b));
    }

    public int product(int q, int n, long a, long b) {
        if (!field(q, n) || !isWord(q, n, a) || !isWord(q, n, b)) {
            return -1;
        }
        return productOf(q, letters(q, n, a), letters(q, n, b));
    }

    /** -1, -11, -12 of a line at a place, or 0. */
    private int line(int p) {
        if (!place(p)) {
            return -1;
        }
        if (codes[p] == null) {
            return -11;
        }
        return codes[p].listed() ? -12 : 0;
    }

    public int form(int p) {
        if (line(p) != 0) {
            return line(p);
        }
        Plain c = codes[p];
        Plain formed = new Plain(c.kind == 3 ? 3 : 1, c.q, c.n);
        formed.rows.addAll(formOf(c));
        return come(p, formed);
    }

    public int head(int p, int i) {
        if (i < 0) {
            return -1;
        }
        if (line(p) != 0) {
            return line(p);
        }
        List<Integer> heads = new ArrayList<>();
        formOf(codes[p].q, codes[p].n, codes[p].rows, heads);
        return i < heads.size() ? heads.get(i) : -2;
    }

    public int dual(int p, int to) {
        if (!place(to)) {
            return -1;
        }
        if (line(p) != 0) {
            return line(p);
        }
        Plain dual = new Plain(1, codes[p].q, codes[p].n);
        dual.rows.addAll(dualOf(codes[p]));
        return come(to, dual);
    }

    public long checks(int p, long word) {
        if (!place(p)) {
            return -1;
        }
        Plain c = codes[p];
        if (c == null) {
            return -11;
        }
        if (!isWord(c.q, c.n, word)) {
            return -1;
        }
        if (c.listed()) {
            return -12;
        }
        long checks = 0;
        for (int[] row : dualOf(c)) {
            checks = checks * c.q + productOf(c.q, row, letters(c.q, c.n, word));
        }
        return checks;
    }

    public int least(int p) {
        if (!place(p)) {
            return -1;
        }
        if (codes[p] == null) {
            return -11;
        }
        return wordsOf(codes[p]) == null ? -5 : leastOf(codes[p]);
    }

    public long weights(int p, int w) {
        if (!place(p)) {
            return -1;
        }
        if (codes[p] == null) {
            return -11;
        }
        if (w < 0 || w > codes[p].n) {
            return -1;
        }
        long[] counts = countsOf(codes[p]);
        return counts == null ? -5 : counts[w];
    }

    /** K(w, i) is what stands at z^w in (1 - z)^i (1 + (q - 1) z)^(n - i). */
    static long turned(int q, int n, int w, int i) {
        long[] poly = new long[n + 2];
        poly[0] = 1;
        for (int k = 0; k < n; k++) {
            long by = k < i ? -1 : q - 1;
            for (int e = n; e > 0; e--) {
                poly[e] += by * poly[e - 1];
            }
        }
        return poly[w];
    }

    public long law(int p, int w) {
        if (!place(p)) {
            throw new IllegalArgumentException();
        }
        Plain c = codes[p];
        if (c == null) {
            throw new IllegalStateException();
        }
        if (w < 0 || w > c.n) {
            throw new IllegalArgumentException();
        }
        long[] counts = countsOf(c);
        if (counts == null) {
            throw new IllegalStateException();
        }
        long sum = 0;
        for (int i = 0; i <= c.n; i++) {
            sum += counts[i] * turned(c.q, c.n, w, i);
        }
        return sum;
    }

    public int beat(int p) {
        if (!place(p)) {
            return -1;
        }
        if (codes[p] == null) {
            return -11;
        }
        long[] counts = countsOf(codes[p]);
        if (counts == null) {
            return -5;
        }
        int beat = 0;
        for (int w = 0; w < counts.length; w++) {
            for (int d = w; counts[w] != 0 && d > 0; d--) {
                if (w % d == 0 && beat % d == 0) {
                    beat = d;
                    break;
                }
            }
        }
        return beat;
    }

    public long bound(int q, int n, int d, int which) {
        if (!field(q, n) || d < 1 || d > n || which != 0 && which != 1) {
            return -1;
        }
        if (which == 1) {
            return all(q, n - d + 1);
        }
        long ball = 0;
        for (int w = 0; w <= (d - 1) / 2; w++) {
            ball += turned(q, n, w, 0);
        }
        return all(q, n) / ball;
    }

    public long read(int p, long word, int lost) {
        if (!place(p)) {
            return -1;
        }
        Plain c = codes[p];
        if (c == null) {
            return -11;
        }
        if (!isWord(c.q, c.n, word) || lost < 0 || lost >= 1 << c.n) {
            return -1;
        }
        List<int[]> words = wordsOf(c);
        if (words == null) {
            return -5;
        }
        int[] w = letters(c.q, c.n, word);
        int best = 99;
        long read = -2;
        for (int[] other : words) {
            int way = 0;
            for (int i = 0; i < c.n; i++) {
                way += (lost >> i & 1) == 0 && other[i] != w[i] ? 1 : 0;
            }
            if (way < best) {
                best = way;
                read = number(c.q, other);
            }
        }
        return read;
    }

    private static int within(List<int[]> words, int[] w, int d) {
        int found = 0;
        for (int[] other : words) {
            found += wayOf(other, w) <= d ? 1 : 0;
        }
        return found;
    }

    public int near(int p, long word, int d) {
        if (!place(p)) {
            return -1;
        }
        Plain c = codes[p];
        if (c == null) {
            return -11;
        }
        if (!isWord(c.q, c.n, word) || d < 0 || d > c.n) {
            return -1;
        }
        List<int[]> words = wordsOf(c);
        return words == null ? -5 : within(words, letters(c.q, c.n, word), d);
    }

    /** COVER and the first HOLE, or a refusal. */
    private long[] far(int p) {
        if (!place(p)) {
            return new long[] {-1, -1};
        }
        Plain c = codes[p];
        if (c == null) {
            return new long[] {-11, -11};
        }
        if (all(c.q, c.n) > 1024) {
            return new long[] {-5, -5};
        }
        List<int[]> words = wordsOf(c);
        if (words.isEmpty()) {
            return new long[] {-2, -2};
        }
        long[] far = {-1, -1};
        for (long k = 0; k < all(c.q, c.n); k++) {
            int least = 99;
            for (int[] w : words) {
                least = Math.min(least, wayOf(w, letters(c.q, c.n, k)));
            }
            if (least > far[0]) {
                far[0] = least;
                far[1] = k;
            }
        }
        return far;
    }

    public int cover(int p) {
        return (int) far(p)[0];
    }

    public long hole(int p) {
        return far(p)[1];
    }

    public int whole(int p) {
        if (!place(p)) {
            return -1;
        }
        Plain c = codes[p];
        if (c == null) {
            return -11;
        }
        if (all(c.q, c.n) > 1024) {
            return -5;
        }
        int least = leastOf(c);
        if (least == 0) {
            return 0;
        }
        List<int[]> words = wordsOf(c);
        for (long k = 0; k < all(c.q, c.n); k++) {
            if (within(words, letters(c.q, c.n, k), (least - 1) / 2) != 1) {
                return 0;
            }
        }
        return 1;
    }

    public int longer(int p, int to) {
        if (!place(p) || !place(to)) {
            return -1;
        }
        Plain c = codes[p];
        if (c == null) {
            return -11;
        }
        if (c.n == 12) {
            return -6;
        }
        Plain longer = new Plain(c.listed() ? 0 : 1, c.q, c.n + 1);
        for (int[] w : c.rows) {
            int[] more = Arrays.copyOf(w, c.n + 1);
            for (int letter : w) {
                more[c.n] = plus(c.q, more[c.n], letter);
            }
            more[c.n] = against(c.q, more[c.n]);
            longer.rows.add(more);
        }
        return come(to, longer);
    }

    private static int[] without(int[] w, int i) {
        int[] less = new int[w.length - 1];
        for (int k = 0; k < less.length; k++) {
            less[k] = w[k < i ? k : k + 1];
        }
        return less;
    }

    public int cut(int p, int i, int to) {
        if (!place(p) || !place(to)) {
            return -1;
        }
        Plain c = codes[p];
        if (c == null) {
            return -11;
        }
        if (c.n == 1 || i < 0 || i >= c.n) {
            return -1;
        }
        Plain cut = new Plain(c.listed() ? 0 : 1, c.q, c.n - 1);
        for (int[] w : c.rows) {
            if (!c.listed() || !hasWord(cut, without(w, i))) {
                cut.rows.add(without(w, i));
            }
        }
        return come(to, cut);
    }

    public int shorter(int p, int i, int to) {
        if (!place(p) || !place(to)) {
            return -1;
        }
        Plain c = codes[p];
        if (c == null) {
            return -11;
        }
        if (c.n == 1 || i < 0 || i >= c.n) {
            return -1;
        }
        Plain shorter = new Plain(c.listed() ? 0 : 1, c.q, c.n - 1);
        List<int[]> rows = new ArrayList<>(c.rows);
        if (!c.listed()) {
            int[] first = null;
            for (int[] w : rows) {
                first = first == null && w[i] != 0 ? w : first;
            }
            if (first != null) {
                rows.remove(first);
                for (int k = 0; k < rows.size(); k++) {
                    while (rows.get(k)[i] != 0) {
                        int before = rows.get(k)[i];
                        int often = over(c.q, before, first[i]);
                        rows.set(k, sumOf(c.q, rows.get(k), first, against(c.q, often)));
                    }
                }
            }
        }
        for (int[] w : rows) {
            if (w[i] == 0) {
                shorter.rows.add(without(w, i));
            }
        }
        return come(to, shorter);
    }

    public int join(int p, int o, int how, int to) {
        if (!place(p) || !place(o) || how < 0 || how > 2 || !place(to)) {
            return -1;
        }
        for (int each : new int[] {p, o}) {
            if (line(each) != 0) {
                return line(each);
            }
        }
        Plain a = codes[p];
        Plain b = codes[o];
        if (a.q != b.q || how != 1 && a.n != b.n) {
            return -4;
        }
        int n = how == 0 ? a.n : how == 1 ? a.n + b.n : 2 * a.n;
        if (a.rows.size() + b.rows.size() > 12 || n > 12) {
            return -6;
        }
        Plain joined = new Plain(1, a.q, n);
        for (int[] w : a.rows) {
            int[] row = Arrays.copyOf(w, n);
            if (how == 2) {
                System.arraycopy(w, 0, row, a.n, a.n);
            }
            joined.rows.add(row);
        }
        for (int[] w : b.rows) {
            int[] row = new int[n];
            System.arraycopy(w, 0, row, n - b.n, b.n);
            joined.rows.add(row);
        }
        return come(to, joined);
    }

    public int list(int p, int to) {
        if (!place(to)) {
            return -1;
        }
        if (line(p) != 0) {
            return line(p);
        }
        List<int[]> words = wordsOf(codes[p]);
        if (words == null) {
            return -5;
        }
        if (words.size() > 200) {
            return -6;
        }
        Plain listed = new Plain(0, codes[p].q, codes[p].n);
        listed.rows.addAll(words);
        return come(to, listed);
    }

    public int turn(int p, long turn, int times, int to) {
        if (!place(p) || !place(to)) {
            return -1;
        }
        Plain c = codes[p];
        if (c == null) {
            return -11;
        }
        if (times < 1 || times >= c.q || turn < 0) {
            return -1;
        }
        TreeSet<Integer> goes = new TreeSet<>();
        int[] target = new int[c.n];
        long rest = turn;
        for (int i = 0; i < c.n; i++) {
            target[i] = (int) (rest % 16);
            rest /= 16;
            goes.add(target[i]);
        }
        if (rest != 0 || goes.size() != c.n || goes.last() != c.n - 1) {
            return -1;
        }
        Plain turned = new Plain(c.kind == 2 ? 1 : c.kind, c.q, c.n);
        for (int[] w : c.rows) {
            int[] row = new int[c.n];
            for (int i = 0; i < c.n; i++) {
                row[target[i]] = times(c.q, w[i], times);
            }
            turned.rows.add(row);
        }
        return come(to, turned);
    }

    public int same(int p, int o) {
        if (!place(p) || !place(o)) {
            return -1;
        }
        Plain a = codes[p];
        Plain b = codes[o];
        if (a == null || b == null) {
            return -11;
        }
        if (a.q != b.q || a.n != b.n) {
            return -4;
        }
        if (!a.listed() && !b.listed()) {
            List<int[]> one = formOf(a);
            List<int[]> two = formOf(b);
            boolean same = one.size() == two.size();
            for (int k = 0; same && k < one.size(); k++) {
                same = Arrays.equals(one.get(k), two.get(k));
            }
            return same ? 1 : 0;
        }
        TreeSet<Long> one = new TreeSet<>();
        TreeSet<Long> two = new TreeSet<>();
        if (wordsOf(a) == null || wordsOf(b) == null) {
            return -5;
        }
        wordsOf(a).forEach(w -> one.add(number(a.q, w)));
        wordsOf(b).forEach(w -> two.add(number(b.q, w)));
        return one.equals(two) ? 1 : 0;
    }

    public int design(int p, int w, int places) {
        if (!place(p)) {
            return -1;
        }
        Plain c = codes[p];
        if (c == null) {
            return -11;
        }
        if (w < 0 || w > c.n || places < 0 || places >= 1 << c.n) {
            return -1;
        }
        List<int[]> words = wordsOf(c);
        if (words == null) {
            return -5;
        }
        int found = 0;
        for (int[] word : words) {
            boolean fits = wayOf(word, new int[c.n]) == w;
            for (int i = 0; i < c.n; i++) {
                fits = fits && ((places >> i & 1) == 0 || word[i] != 0);
            }
            found += fits ? 1 : 0;
        }
        return found;
    }

    public int keep(int d, int what, int p, int k) {
        if (d < 0 || d > 5) {
            return -1;
        }
        if (what == 0) {
            shelf[d] = null;
            return 0;
        }
        if (what != 1 && what != 3 && what != 4 || !place(p)) {
            return -1;
        }
        Plain c = codes[p];
        if (c == null) {
            return -11;
        }
        if (what == 1) {
            Plain copy = new Plain(c.kind, c.q, c.n);
            copy.rows.addAll(c.rows);
            shelf[d] = copy;
        } else if (what == 3) {
            if (k < 0 || k >= c.rows.size()) {
                return -2;
            }
            byte[] row = new byte[c.n];
            for (int i = 0; i < c.n; i++) {
                row[i] = (byte) c.rows.get(k)[i];
            }
            shelf[d] = row;
        } else {
            long[] row = new long[c.rows.size()];
            for (int i = 0; i < row.length; i++) {
                row[i] = number(c.q, c.rows.get(i));
            }
            shelf[d] = row;
        }
        return 0;
    }

    public int row(int d, int what, int n) {
        if (d < 0 || d > 5 || what != 3 && what != 4 || n > 60) {
            return -1;
        }
        if (n < 0) {
            return -14;
        }
        shelf[d] = what == 3 ? new byte[n] : new long[n];
        return 0;
    }

    private static int length(Object held) {
        return held instanceof byte[] b ? b.length : held instanceof long[] l ? l.length : -1;
    }

    public long element(int d, int i) {
        if (d < 0 || d > 5) {
            throw new IllegalArgumentException();
        }
        if (i < 0 || i >= length(shelf[d])) {
            throw new IllegalStateException();
        }
        return shelf[d] instanceof byte[] b ? b[i] : ((long[]) shelf[d])[i];
    }

    public int copy(int d, int i, int e, int j, int n) {
        if (d < 0 || d > 5 || e < 0 || e > 5) {
            return -1;
        }
        if (shelf[d] == null || shelf[e] == null) {
            return -11;
        }
        if (length(shelf[d]) < 0 || shelf[d].getClass() != shelf[e].getClass()) {
            return -12;
        }
        if (n < 0 || i < 0 || j < 0 || (long) i + n > length(shelf[d]) || (long) j + n > length(shelf[e])) {
            return -13;
        }
        Object before = shelf[d] instanceof byte[] b ? b.clone() : ((long[]) shelf[d]).clone();
        for (int k = 0; k < n; k++) {
            java.lang.reflect.Array.set(shelf[e], j + k, java.lang.reflect.Array.get(before, i + k));
        }
        return n;
    }

    public int heft(int d) {
        if (d < 0 || d > 5) {
            return -1;
        }
        if (shelf[d] == null) {
            return -11;
        }
        if (!(shelf[d] instanceof Plain c)) {
            return -12;
        }
        int rows = c.rows.size();
        return new int[] {rows, 100 + 10 * rows, 1100 + 10 * rows, 200 + 20 * rows}[c.kind];
    }

    public int toss(int d) {
        if (d < 0 || d > 5) {
            return -1;
        }
        if (shelf[d] == null) {
            return -11;
        }
        if (!(shelf[d] instanceof Plain c)) {
            return -12;
        }
        return c.listed() ? -15 : c.n;
    }
}
