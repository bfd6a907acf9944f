import java.util.Arrays;

/** A bench for codes over small fields: twelve places for codes, and a shelf for what is kept of them. */
public final class WordBench {
    private static final int PLACES = 12;
    private static final int SHELVES = 6;
    private static final int LONGEST = 12;
    private static final int MOST_ROWS = 12;
    private static final int MOST_LISTED = 200;
    private static final int MOST_WORDS = 4096;
    private static final int MOST_OF_ALL = 1024;
    private static final int MOST_ELEMENTS = 60;

    private static final int LISTED = 0;
    private static final int LINE = 1;
    private static final int RING = 2;
    private static final int OWN = 3;

    private static final int KEEP_NOTHING = 0;
    private static final int KEEP_CODE = 1;
    private static final int BYTES = 3;
    private static final int LONGS = 4;

    private static final int NO_SUCH = -1;
    private static final int NOT_THERE = -2;
    private static final int NOT_STAYING = -3;
    private static final int UNLIKE = -4;
    private static final int SPENT = -5;
    private static final int NO_ROOM = -6;
    private static final int EMPTY = -11;
    private static final int OTHER_KIND = -12;
    private static final int BEYOND = -13;
    private static final int BELOW_ZERO = -14;
    private static final int NO_FAILURE = -15;

    private final Code[] places;
    private final Held[] shelf;
    // Rows for the work of one call, made once: a run's calls share one room.
    private final long[] words;
    private final long[] counts;
    private final int[] ways;

    public WordBench() {
        places = new Code[PLACES];
        shelf = new Held[SHELVES];
        words = new long[MOST_WORDS];
        counts = new long[LONGEST + 1];
        ways = new int[MOST_OF_ALL];
    }

    // ---- places

    public int make(int place, int kind, int q, int n) {
        if (!isPlace(place) || !isSpace(q, n)) {
            return NO_SUCH;
        }
        switch (kind) {
            case LISTED:
                places[place] = new Listed(new Space(q, n));
                return 0;
            case LINE:
                places[place] = new Line(new Space(q, n));
                return 0;
            case OWN:
                places[place] = new Own(new Space(q, n));
                return 0;
            default:
                return NO_SUCH;
        }
    }

    public int add(int place, long word) {
        Code code = codeAt(place);
        if (code == null) {
            return refusalAt(place);
        }
        if (!code.space.holds(word)) {
            return NO_SUCH;
        }
        int refusal = code.refusalOf(code.space.packed(word));
        if (refusal < 0) {
            return refusal;
        }
        code.put(code.space.packed(word));
        return code.count;
    }

    public int ring(int place, int q, int n, long polynomial) {
        if (!isPlace(place) || !isSpace(q, n)) {
            return NO_SUCH;
        }
        Space space = new Space(q, n);
        if (polynomial == 0 || !space.holds(polynomial)) {
            return NO_SUCH;
        }
        long number = space.packed(polynomial);
        Ring ring = new Ring(space);
        long first = space.reversed(number);
        int rows = space.headOf(number) + 1;
        for (int i = 0; i < rows; i++) {
            ring.put(first >>> (4 * i));
        }
        return put(place, ring);
    }

    public int empty(int place) {
        if (!isPlace(place)) {
            return NO_SUCH;
        }
        boolean had = places[place] != null;
        places[place] = null;
        return told(had);
    }

    public int look(int place, int what) {
        if (what < 0 || what > 5) {
            return NO_SUCH;
        }
        Code code = codeAt(place);
        if (code == null) {
            return refusalAt(place);
        }
        switch (what) {
            case 0:
                return code.kind();
            case 1:
                return code.space.q;
            case 2:
                return code.space.n;
            case 3:
                return code.count;
            default:
                break;
        }
        Line line = lineOf(code);
        if (line == null) {
            return OTHER_KIND;
        }
        return what == 4 ? line.form.rank : told(line.isWithinDual());
    }

    public long word(int place, int i) throws IllegalArgumentException, IllegalStateException {
        if (!isPlace(place)) {
            throw new IllegalArgumentException("no such place");
        }
        Code code = places[place];
        if (code == null || i < 0 || i >= code.count) {
            throw new IllegalStateException("no such word");
        }
        return code.space.number(code.at(i));
    }

    public long size(int place) {
        Code code = codeAt(place);
        return code == null ? refusalAt(place) : code.many();
    }

    public int in(int place, long word) {
        Code code = codeAt(place);
        if (code == null) {
            return refusalAt(place);
        }
        if (!code.space.holds(word)) {
            return NO_SUCH;
        }
        return told(code.has(code.space.packed(word)));
    }

    // ---- words

    public long sum(int q, int n, long a, long b, int c) {
        if (!areWords(q, n, a, b) || c < 0 || c >= q) {
            return NO_SUCH;
        }
        Space space = new Space(q, n);
        return space.number(space.plus(space.packed(a), space.times(c, space.packed(b))));
    }

    public int way(int q, int n, long a, long b) {
        if (!areWords(q, n, a, b)) {
            return NO_SUCH;
        }
        Space space = new Space(q, n);
        return space.weightOf(space.packed(a) ^ space.packed(b));
    }

    public int product(int q, int n, long a, long b) {
        if (!areWords(q, n, a, b)) {
            return NO_SUCH;
        }
        Space space = new Space(q, n);
        return space.productOf(space.packed(a), space.packed(b));
    }

    // ---- forms

    public int form(int place) {
        Line line = lineOf(codeAt(place));
        if (line == null) {
            return refusalOfLineAt(place);
        }
        Code formed = line.changed();
        for (int i = 0; i < line.form.rank; i++) {
            formed.put(line.form.at(i));
        }
        return put(place, formed);
    }

    public int head(int place, int i) {
        if (i < 0) {
            return NO_SUCH;
        }
        Line line = lineOf(codeAt(place));
        if (line == null) {
            return refusalOfLineAt(place);
        }
        return i >= line.form.rank ? NOT_THERE : line.space.headOf(line.form.at(i));
    }

    public int dual(int place, int to) {
        if (!isPlace(to)) {
            return NO_SUCH;
        }
        Line line = lineOf(codeAt(place));
        if (line == null) {
            return refusalOfLineAt(place);
        }
        Line dual = new Line(line.space);
        for (int free = 0; free < line.space.n; free++) {
            if (!line.form.isHead(free)) {
                dual.put(line.form.dualRow(free));
            }
        }
        return put(to, dual);
    }

    public long checks(int place, long word) {
        Code code = codeAt(place);
        if (code == null) {
            return refusalAt(place);
        }
        Space space = code.space;
        if (!space.holds(word)) {
            return NO_SUCH;
        }
        Line line = lineOf(code);
        if (line == null) {
            return OTHER_KIND;
        }
        long packed = space.packed(word);
        long checks = 0;
        for (int free = 0; free < space.n; free++) {
            if (!line.form.isHead(free)) {
                checks = checks * space.q + space.productOf(packed, line.form.dualRow(free));
            }
        }
        return checks;
    }

    // ---- weights

    public int least(int place) {
        Code code = codeAt(place);
        if (code == null) {
            return refusalAt(place);
        }
        return tally(code) ? leastCounted() : SPENT;
    }

    public long weights(int place, int w) {
        Code code = codeAt(place);
        if (code == null) {
            return refusalAt(place);
        }
        if (w < 0 || w > code.space.n) {
            return NO_SUCH;
        }
        return tally(code) ? counted(w) : SPENT;
    }

    public long law(int place, int w) throws IllegalArgumentException, IllegalStateException {
        if (!isPlace(place)) {
            throw new IllegalArgumentException("no such place");
        }
        Code code = places[place];
        if (code == null) {
            throw new IllegalStateException("the place is empty");
        }
        if (w < 0 || w > code.space.n) {
            throw new IllegalArgumentException("no such weight");
        }
        if (!tally(code)) {
            throw new IllegalStateException("spent");
        }
        long sum = 0;
        for (int i = 0; i <= code.space.n; i++) {
            sum += counted(i) * factor(code.space, w, i);
        }
        return sum;
    }

    public int beat(int place) {
        Code code = codeAt(place);
        if (code == null) {
            return refusalAt(place);
        }
        if (!tally(code)) {
            return SPENT;
        }
        if (leastCounted() == 0) {
            return 0;
        }
        for (int d = code.space.n; d > 1; d--) {
            if (dividesAllCounted(d)) {
                return d;
            }
        }
        return 1;
    }

    public long bound(int q, int n, int d, int which) {
        if (!isSpace(q, n) || d < 1 || d > n || which < 0 || which > 1) {
            return NO_SUCH;
        }
        if (which == 1) {
            return power(q, n - d + 1);
        }
        long ball = 0;
        for (int w = 0; w <= (d - 1) / 2; w++) {
            ball += choose(n, w) * power(q - 1, w);
        }
        return ball < 1 ? 0 : power(q, n) / ball;
    }

    // ---- reading

    public long read(int place, long word, int lost) {
        Code code = codeAt(place);
        if (code == null) {
            return refusalAt(place);
        }
        Space space = code.space;
        if (!space.holds(word) || !space.holdsPlaces(lost)) {
            return NO_SUCH;
        }
        int many = code.spread(words);
        if (many < 0) {
            return SPENT;
        }
        if (many == 0) {
            return NOT_THERE;
        }
        long packed = space.packed(word);
        long kept = ~space.lettersAt(lost);
        long nearest = 0;
        int least = LONGEST + 1;
        for (int k = 0; k < many && k < words.length; k++) {
            int way = space.weightOf((words[k] ^ packed) & kept);
            if (way < least) {
                least = way;
                nearest = words[k];
            }
        }
        return space.number(nearest);
    }

    public int near(int place, long word, int d) {
        Code code = codeAt(place);
        if (code == null) {
            return refusalAt(place);
        }
        Space space = code.space;
        if (!space.holds(word) || d < 0 || d > space.n) {
            return NO_SUCH;
        }
        int many = code.spread(words);
        if (many < 0) {
            return SPENT;
        }
        long packed = space.packed(word);
        int near = 0;
        for (int k = 0; k < many && k < words.length; k++) {
            near += told(space.weightOf(words[k] ^ packed) <= d);
        }
        return near;
    }

    public int cover(int place) {
        Code code = codeAt(place);
        return code == null ? refusalAt(place) : farthest(code);
    }

    public long hole(int place) {
        Code code = codeAt(place);
        if (code == null) {
            return refusalAt(place);
        }
        int cover = farthest(code);
        if (cover < 0) {
            return cover;
        }
        int hole = 0;
        while (hole < ways.length && ways[hole] != cover) {
            hole++;
        }
        return hole;
    }

    public int whole(int place) {
        Code code = codeAt(place);
        if (code == null) {
            return refusalAt(place);
        }
        if (code.space.total() > MOST_OF_ALL || !tally(code)) {
            return SPENT;
        }
        int least = leastCounted();
        // Balls of that width never meet: it is enough that they leave nothing out.
        return told(least > 0 && farthest(code) <= (least - 1) / 2);
    }

    // ---- made out of others; they come to a PLACE: words (ROWS) that they have

    public int longer(int place, int to) {
        if (!isPlace(to)) {
            return NO_SUCH;
        }
        Code code = codeAt(place);
        if (code == null) {
            return refusalAt(place);
        }
        Space space = code.space;
        if (space.n >= LONGEST) {
            return NO_ROOM;
        }
        Code longer = code.plain(new Space(space.q, space.n + 1));
        for (int i = 0; i < code.count; i++) {
            long word = code.at(i);
            longer.put((word << 4) | space.negative(space.letterSum(word)));
        }
        return put(to, longer);
    }

    public int cut(int place, int i, int to) {
        if (!isPlace(to)) {
            return NO_SUCH;
        }
        Code code = codeAt(place);
        if (code == null) {
            return refusalAt(place);
        }
        Space space = code.space;
        if (!space.canLose(i)) {
            return NO_SUCH;
        }
        Code cut = code.plain(new Space(space.q, space.n - 1));
        boolean listed = code.kind() == LISTED;
        for (int k = 0; k < code.count; k++) {
            long word = space.without(code.at(k), i);
            if (!listed || !cut.has(word)) {
                cut.put(word);
            }
        }
        return put(to, cut);
    }

    public int shorter(int place, int i, int to) {
        if (!isPlace(to)) {
            return NO_SUCH;
        }
        Code code = codeAt(place);
        if (code == null) {
            return refusalAt(place);
        }
        Space space = code.space;
        if (!space.canLose(i)) {
            return NO_SUCH;
        }
        Code shorter = code.plain(new Space(space.q, space.n - 1));
        int taken = code.kind() == LISTED ? -1 : code.firstWith(i);
        for (int k = 0; k < code.count; k++) {
            long word = taken < 0 ? code.at(k) : space.cleared(code.at(k), code.at(taken), i);
            if (k != taken && space.letter(word, i) == 0) {
                shorter.put(space.without(word, i));
            }
        }
        return put(to, shorter);
    }

    public int join(int place, int other, int how, int to) {
        if (!isPlace(place) || !isPlace(other) || !isPlace(to) || how < 0 || how > 2) {
            return NO_SUCH;
        }
        Line first = lineOf(codeAt(place));
        Line second = lineOf(codeAt(other));
        if (first == null || second == null) {
            return refusalOfLineAt(first == null ? place : other);
        }
        int n = first.space.n;
        if (first.space.q != second.space.q || (how != 1 && n != second.space.n)) {
            return UNLIKE;
        }
        int length = how == 0 ? n : n + second.space.n;
        if (length > LONGEST || first.count + second.count > MOST_ROWS) {
            return NO_ROOM;
        }
        Line joined = new Line(new Space(first.space.q, length));
        for (int i = 0; i < first.count; i++) {
            long row = first.at(i);
            long moved = row << (4 * (length - n));
            joined.put(how == 2 ? moved | row : moved);
        }
        for (int i = 0; i < second.count; i++) {
            joined.put(second.at(i));
        }
        return put(to, joined);
    }

    public int list(int place, int to) {
        if (!isPlace(to)) {
            return NO_SUCH;
        }
        Code code = codeAt(place);
        if (code == null) {
            return refusalAt(place);
        }
        if (code.kind() == LISTED) {
            return OTHER_KIND;
        }
        int many = code.spread(words);
        if (many < 0) {
            return SPENT;
        }
        if (many > MOST_LISTED) {
            return NO_ROOM;
        }
        Listed listed = new Listed(code.space);
        for (int k = 0; k < many && k < words.length; k++) {
            listed.put(words[k]);
        }
        return put(to, listed);
    }

    public int turn(int place, long turn, int c, int to) {
        if (!isPlace(to)) {
            return NO_SUCH;
        }
        Code code = codeAt(place);
        if (code == null) {
            return refusalAt(place);
        }
        Space space = code.space;
        if (!space.isTurn(turn) || c < 1 || c >= space.q) {
            return NO_SUCH;
        }
        Code turned = code.changed();
        for (int k = 0; k < code.count; k++) {
            turned.put(space.times(c, space.turned(code.at(k), turn)));
        }
        return put(to, turned);
    }

    public int same(int place, int other) {
        if (!isPlace(place) || !isPlace(other)) {
            return NO_SUCH;
        }
        Code first = places[place];
        Code second = places[other];
        if (first == null || second == null) {
            return EMPTY;
        }
        if (first.space.q != second.space.q || first.space.n != second.space.n) {
            return UNLIKE;
        }
        boolean firstListed = first.kind() == LISTED;
        boolean secondListed = second.kind() == LISTED;
        if (firstListed != secondListed && Math.max(first.many(), second.many()) > MOST_WORDS) {
            return SPENT;
        }
        if (first.many() != second.many()) {
            return 0;
        }
        // ROWS stand for all words of a LINE only where the other is a LINE, too.
        return told(secondListed ? first.hasAllOf(second) : second.hasAllOf(first));
    }

    public int design(int place, int w, int places) {
        Code code = codeAt(place);
        if (code == null) {
            return refusalAt(place);
        }
        Space space = code.space;
        if (w < 0 || w > space.n || !space.holdsPlaces(places)) {
            return NO_SUCH;
        }
        int many = code.spread(words);
        if (many < 0) {
            return SPENT;
        }
        long asked = space.lettersAt(places);
        int wanted = space.weightOf(asked);
        int found = 0;
        for (int k = 0; k < many && k < words.length; k++) {
            found += told(space.weightOf(words[k]) == w && space.weightOf(words[k] & asked) == wanted);
        }
        return found;
    }

    // ---- rows

    public int keep(int d, int what, int place, int k) {
        if (!isShelf(d)) {
            return NO_SUCH;
        }
        if (what == KEEP_NOTHING) {
            shelf[d] = null;
            return 0;
        }
        if ((what != KEEP_CODE && what != BYTES && what != LONGS) || !isPlace(place)) {
            return NO_SUCH;
        }
        Code code = places[place];
        if (code == null) {
            return EMPTY;
        }
        if (what == BYTES && (k < 0 || k >= code.count)) {
            return NOT_THERE;
        }
        if (what == KEEP_CODE) {
            shelf[d] = code.copied();
        } else if (what == BYTES) {
            shelf[d] = lettersOf(code, k);
        } else {
            shelf[d] = numbersOf(code);
        }
        return 0;
    }

    public int row(int d, int what, int n) {
        if (!isShelf(d) || (what != BYTES && what != LONGS) || n > MOST_ELEMENTS) {
            return NO_SUCH;
        }
        if (n < 0) {
            return BELOW_ZERO;
        }
        shelf[d] = new Row(what, n);
        return 0;
    }

    public long element(int d, int i) throws IllegalArgumentException, IllegalStateException {
        if (!isShelf(d)) {
            throw new IllegalArgumentException("no such shelf");
        }
        Row row = rowOn(d);
        if (row == null || !row.holds(i, 1)) {
            throw new IllegalStateException("no such element");
        }
        return row.at(i);
    }

    public int copy(int d, int i, int e, int j, int n) {
        if (!isShelf(d) || !isShelf(e)) {
            return NO_SUCH;
        }
        if (shelf[d] == null || shelf[e] == null) {
            return EMPTY;
        }
        Row from = rowOn(d);
        Row to = rowOn(e);
        if (from == null || to == null || from.kind != to.kind) {
            return OTHER_KIND;
        }
        if (!from.holds(i, n) || !to.holds(j, n)) {
            return BEYOND;
        }
        to.take(from, i, j, n);
        return n;
    }

    public int heft(int d) {
        Code code = codeOn(d);
        return code == null ? refusalOfCodeOn(d) : code.hefted();
    }

    public int toss(int d) {
        Code code = codeOn(d);
        if (code == null) {
            return refusalOfCodeOn(d);
        }
        try {
            code.fail();
        } catch (IllegalStateException failure) {
            return code.space.n;
        }
        return NO_FAILURE;
    }

    // ---- what the calls share

    private static boolean isPlace(int place) {
        return place >= 0 && place < PLACES;
    }

    private Code codeAt(int place) {
        return isPlace(place) ? places[place] : null;
    }

    /** The refusal for a PLACE without a CODE. */
    private static int refusalAt(int place) {
        return isPlace(place) ? EMPTY : NO_SUCH;
    }

    /** The refusal for a PLACE without a LINE. */
    private int refusalOfLineAt(int place) {
        return codeAt(place) == null ? refusalAt(place) : OTHER_KIND;
    }

    private static boolean isShelf(int d) {
        return d >= 0 && d < SHELVES;
    }

    /** A CODE as the LINE that it is, or null. */
    private static Line lineOf(Code code) {
        if (code instanceof Line line) {
            return line;
        }
        return null;
    }

    private Code codeOn(int d) {
        if (isShelf(d) && shelf[d] instanceof Code code) {
            return code;
        }
        return null;
    }

    /** The refusal for a SHELF without a CODE. */
    private int refusalOfCodeOn(int d) {
        if (!isShelf(d)) {
            return NO_SUCH;
        }
        return shelf[d] == null ? EMPTY : OTHER_KIND;
    }

    private Row rowOn(int d) {
        if (isShelf(d) && shelf[d] instanceof Row row) {
            return row;
        }
        return null;
    }

    private static boolean isSpace(int q, int n) {
        return q >= 2 && q <= 5 && n >= 1 && n <= LONGEST;
    }

    private static boolean areWords(int q, int n, long a, long b) {
        return isSpace(q, n) && a >= 0 && a < power(q, n) && b >= 0 && b < power(q, n);
    }

    private static int told(boolean yes) {
        return yes ? 1 : 0;
    }

    private static long power(long base, int exponent) {
        long power = 1;
        for (int i = 0; i < exponent; i++) {
            power *= base;
        }
        return power;
    }

    private static long choose(int n, int k) {
        if (k < 0 || k > n) {
            return 0;
        }
        long ways = 1;
        for (int i = 1; i <= k; i++) {
            ways = ways * (n - k + i) / i;
        }
        return ways;
    }

    /** K(w, i) of THE LAW. */
    private static long factor(Space space, int w, int i) {
        long sum = 0;
        for (int j = 0; j <= w; j++) {
            long term = power(space.q - 1, w - j) * choose(i, j) * choose(space.n - i, w - j);
            sum += j % 2 == 0 ? term : -term;
        }
        return sum;
    }

    private int put(int place, Code code) {
        if (isPlace(place)) {
            places[place] = code;
        }
        return code.count;
    }

    /** The COUNTS of a CODE come to counts; false: SPENT. */
    private boolean tally(Code code) {
        int many = code.spread(words);
        if (many < 0) {
            return false;
        }
        Arrays.fill(counts, 0);
        code.tallyInto(counts, words, many);
        return true;
    }

    private long counted(int w) {
        return w >= 0 && w < counts.length ? counts[w] : 0;
    }

    private int leastCounted() {
        for (int w = 1; w < counts.length; w++) {
            if (counts[w] != 0) {
                return w;
            }
        }
        return 0;
    }

    private boolean dividesAllCounted(int d) {
        for (int w = 1; w < counts.length; w++) {
            if (counts[w] != 0 && d != 0 && w % d != 0) {
                return false;
            }
        }
        return true;
    }

    /** COVER of a CODE, or its refusal; ways tells the least WAY of each word of all. */
    private int farthest(Code code) {
        Space space = code.space;
        long total = space.total();
        int many = total > MOST_OF_ALL ? -1 : code.spread(words);
        if (many < 0) {
            return SPENT;
        }
        if (many == 0) {
            return NOT_THERE;
        }
        Arrays.fill(ways, LONGEST + 1);
        for (int k = 0; k < many && k < words.length; k++) {
            long number = space.number(words[k]);
            if (number >= 0 && number < ways.length) {
                ways[(int) number] = 0;
            }
        }
        int step = 1;
        for (int place = space.n - 1; place >= 0; place--) {
            spreadWays(space.q, step, (int) total);
            step *= space.q;
        }
        int farthest = 0;
        for (int k = 0; k < total && k < ways.length; k++) {
            farthest = Math.max(farthest, ways[k]);
        }
        return farthest;
    }

    /** WAYS add up place by place: words that differ at one place alone are at most one WAY farther. */
    private void spreadWays(int q, int step, int total) {
        for (int start = 0; start < total; start++) {
            boolean hasZeroThere = step > 0 && q > 0 && start / step % q == 0;
            if (hasZeroThere) {
                int least = leastOf(q, step, start);
                for (int c = 0; c < q && start + c * step < ways.length; c++) {
                    ways[start + c * step] = Math.min(ways[start + c * step], least + 1);
                }
            }
        }
    }

    private int leastOf(int q, int step, int start) {
        int least = LONGEST + 1;
        for (int c = 0; c < q && start + c * step < ways.length; c++) {
            least = Math.min(least, ways[start + c * step]);
        }
        return least;
    }

    private static Row lettersOf(Code code, int k) {
        Row letters = new Row(BYTES, code.space.n);
        for (int place = 0; place < code.space.n; place++) {
            letters.set(place, code.space.letter(code.at(k), place));
        }
        return letters;
    }

    private static Row numbersOf(Code code) {
        Row numbers = new Row(LONGS, code.count);
        for (int i = 0; i < code.count; i++) {
            numbers.set(i, code.space.number(code.at(i)));
        }
        return numbers;
    }

    /**
     * The words of n letters over a FIELD of q. Inside the bench a word is PACKED, four bits a letter, place 0 the
     * highest: packed words stand in the order of their numbers, and whole words are summed and compared at once.
     */
    private static final class Space {
        private static final long EACH = 0x111111111111L;

        final int q;
        final int n;

        Space(int q, int n) {
            this.q = q;
            this.n = n;
        }

        long total() {
            return power(q, n);
        }

        boolean holds(long number) {
            return number >= 0 && number < total();
        }

        boolean holdsPlaces(int bits) {
            return bits >= 0 && bits < 1 << n;
        }

        boolean canLose(int place) {
            return n > 1 && place >= 0 && place < n;
        }

        private int shift(int place) {
            return 4 * (n - 1 - place);
        }

        int letter(long word, int place) {
            return (int) (word >>> shift(place)) & 15;
        }

        long withLetter(int letter, int place) {
            return (long) letter << shift(place);
        }

        long packed(long number) {
            long rest = number;
            long word = 0;
            for (int place = n - 1; place >= 0 && q > 0; place--) {
                word |= withLetter((int) (rest % q), place);
                rest /= q;
            }
            return word;
        }

        long number(long word) {
            long number = 0;
            for (int place = 0; place < n; place++) {
                number = number * q + letter(word, place);
            }
            return number;
        }

        long plus(long a, long b) {
            if (q == 2 || q == 4) {
                return a ^ b;
            }
            // A letter of q or more reaches its bit 8 when 8 - q is added: from those q is taken.
            long sums = a + b;
            long over = ((sums + EACH * (8 - q)) >>> 3) & EACH;
            return sums - over * q;
        }

        long times(int c, long word) {
            if (q == 4) {
                return (c & 1) * word ^ (c >> 1) * twice(word);
            }
            long product = 0;
            for (int i = 0; i < c && i < q; i++) {
                product = plus(product, word);
            }
            return product;
        }

        /** Of 4 letters: 2 times 1 is 2, 2 times 2 is 3. */
        private long twice(long word) {
            long low = word & EACH;
            long high = (word >>> 1) & EACH;
            return (low ^ high) << 1 | high;
        }

        int negative(int letter) {
            return q == 4 || letter == 0 ? letter : q - letter;
        }

        /** Of 4 and of 5 letters 2 times 3 is 1; all others times themselves are. */
        int inverse(int letter) {
            return q > 3 && (letter == 2 || letter == 3) ? 5 - letter : letter;
        }

        int weightOf(long word) {
            long pairs = word | word >>> 1;
            return Long.bitCount((pairs | pairs >>> 2) & EACH);
        }

        int productOf(long a, long b) {
            long sum = 0;
            for (int place = 0; place < n; place++) {
                sum = plus(sum, times(letter(a, place), letter(b, place)));
            }
            return (int) sum;
        }

        int letterSum(long word) {
            long sum = 0;
            for (int place = 0; place < n; place++) {
                sum = plus(sum, letter(word, place));
            }
            return (int) sum;
        }

        /** The first place with a letter other than 0, or n. */
        int headOf(long word) {
            int place = 0;
            while (place < n && letter(word, place) == 0) {
                place++;
            }
            return place;
        }

        /** A word from which a row is taken so often that it has 0 at a place. */
        long cleared(long word, long row, int place) {
            int often = (int) times(inverse(letter(row, place)), letter(word, place));
            return plus(word, times(negative(often), row));
        }

        long reversed(long word) {
            long reversed = 0;
            for (int place = 0; place < n; place++) {
                reversed |= withLetter(letter(word, place), n - 1 - place);
            }
            return reversed;
        }

        long without(long word, int place) {
            int shift = shift(place);
            long behind = word & ((1L << shift) - 1);
            return word >>> (shift + 4) << shift | behind;
        }

        /** All bits of the letters at the places that are told as bits. */
        long lettersAt(int bits) {
            long letters = 0;
            for (int place = 0; place < n; place++) {
                if ((bits >> place & 1) == 1) {
                    letters |= withLetter(15, place);
                }
            }
            return letters;
        }

        boolean isTurn(long turn) {
            int reached = 0;
            for (int place = 0; place < n; place++) {
                reached |= 1 << (int) (turn >>> (4 * place) & 15);
            }
            return turn >>> (4 * n) == 0 && reached == (1 << n) - 1;
        }

        long turned(long word, long turn) {
            long turned = 0;
            for (int place = 0; place < n; place++) {
                int target = (int) (turn >>> (4 * place) & 15);
                turned |= withLetter(letter(word, place), target);
            }
            return turned;
        }
    }

    /** What a SHELF can hold. */
    private abstract static class Held {
    }

    /** A CODE: its words, or the ROWS that they are sums of, packed. */
    private abstract static class Code extends Held {
        final Space space;
        private final long[] kept;
        int count;

        Code(Space space, int most) {
            this.space = space;
            kept = new long[Math.max(most, 0)];
        }

        abstract int kind();

        /** What the CODE's kind has against one more word or ROW, or 0. */
        abstract int refusalOf(long word);

        abstract boolean has(long word);

        abstract long many();

        /** All words, in the order in which READING takes them: how many, or -1: room is too small. */
        abstract int spread(long[] room);

        abstract void tallyInto(long[] counts, long[] all, int many);

        /** An empty one of the same kind. */
        abstract Code twin();

        /** An empty one of the kind that is left when words or ROWS change within their SPACE. */
        Code changed() {
            return twin();
        }

        /** An empty one of the kind that is left in another SPACE. */
        abstract Code plain(Space other);

        abstract int hefted();

        abstract void fail();

        void put(long word) {
            if (!isFull()) {
                kept[count] = word;
                count++;
            }
        }

        boolean isFull() {
            return count < 0 || count >= kept.length;
        }

        long at(int i) {
            return i >= 0 && i < count && i < kept.length ? kept[i] : 0;
        }

        int firstWith(int place) {
            for (int i = 0; i < count; i++) {
                if (space.letter(at(i), place) != 0) {
                    return i;
                }
            }
            return -1;
        }

        boolean hasAllOf(Code other) {
            for (int i = 0; i < other.count; i++) {
                if (!has(other.at(i))) {
                    return false;
                }
            }
            return true;
        }

        Code copied() {
            Code copied = twin();
            for (int i = 0; i < count; i++) {
                copied.put(at(i));
            }
            return copied;
        }
    }

    /** Words as they come. */
    private static final class Listed extends Code {
        Listed(Space space) {
            super(space, MOST_LISTED);
        }

        int kind() {
            return LISTED;
        }

        int refusalOf(long word) {
            if (has(word)) {
                return NOT_STAYING;
            }
            return isFull() ? NO_ROOM : 0;
        }

        boolean has(long word) {
            for (int i = 0; i < count; i++) {
                if (at(i) == word) {
                    return true;
                }
            }
            return false;
        }

        long many() {
            return count;
        }

        int spread(long[] room) {
            if (count > room.length) {
                return -1;
            }
            for (int i = 0; i < count && i < room.length; i++) {
                room[i] = at(i);
            }
            return count;
        }

        void tallyInto(long[] counts, long[] all, int many) {
            for (int i = 0; i < many && i < all.length; i++) {
                countPair(counts, 0, 1);
                for (int j = 0; j < i; j++) {
                    countPair(counts, space.weightOf(all[i] ^ all[j]), 2);
                }
            }
            divideIfWhole(counts, many);
        }

        private static void countPair(long[] counts, int way, int ways) {
            if (way >= 0 && way < counts.length) {
                counts[way] += ways;
            }
        }

        private static void divideIfWhole(long[] counts, int many) {
            boolean whole = many > 0;
            for (int w = 0; w < counts.length && whole; w++) {
                whole = counts[w] % many == 0;
            }
            for (int w = 0; w < counts.length && whole; w++) {
                counts[w] /= many;
            }
        }

        Code twin() {
            return new Listed(space);
        }

        Code plain(Space other) {
            return new Listed(other);
        }

        int hefted() {
            return count;
        }

        /** LISTED ones have no FAILURE. */
        void fail() {
        }
    }

    /** All sums of letters times ROWS. */
    private static class Line extends Code {
        final Form form;

        Line(Space space) {
            super(space, MOST_ROWS);
            form = new Form(space);
        }

        int kind() {
            return LINE;
        }

        int refusalOf(long row) {
            return isFull() ? NO_ROOM : 0;
        }

        void put(long row) {
            if (!isFull()) {
                super.put(row);
                form.extend(row);
            }
        }

        /** Whether a word has PRODUCT 0 with all ROWS. */
        boolean isChecked(long word) {
            for (int i = 0; i < count; i++) {
                if (space.productOf(at(i), word) != 0) {
                    return false;
                }
            }
            return true;
        }

        boolean isWithinDual() {
            for (int i = 0; i < count; i++) {
                if (!isChecked(at(i))) {
                    return false;
                }
            }
            return true;
        }

        boolean has(long word) {
            return form.restOf(word) == 0;
        }

        long many() {
            return power(space.q, form.rank);
        }

        /** In FORM the letters at the HEADS rise as the numbers do. */
        int spread(long[] room) {
            if (many() > room.length || room.length == 0) {
                return -1;
            }
            room[0] = 0;
            int filled = 1;
            for (int i = form.rank - 1; i >= 0; i--) {
                filled = addTimes(form.at(i), room, filled);
            }
            return filled;
        }

        private int addTimes(long row, long[] room, int filled) {
            int next = filled;
            for (int c = 1; c < space.q; c++) {
                long moved = space.times(c, row);
                for (int k = 0; k < filled && next < room.length; k++) {
                    room[next] = space.plus(room[k], moved);
                    next++;
                }
            }
            return next;
        }

        void tallyInto(long[] counts, long[] all, int many) {
            for (int i = 0; i < many && i < all.length; i++) {
                int weight = space.weightOf(all[i]);
                if (weight < counts.length) {
                    counts[weight]++;
                }
            }
        }

        Code twin() {
            return new Line(space);
        }

        Code plain(Space other) {
            return new Line(other);
        }

        int hefted() {
            return 100 + 10 * count;
        }

        void fail() {
            throw new IllegalStateException("the failure of a line");
        }
    }

    /** A LINE of a polynomial's letters, moved on. */
    private static final class Ring extends Line {
        Ring(Space space) {
            super(space);
        }

        int kind() {
            return RING;
        }

        int refusalOf(long row) {
            return OTHER_KIND;
        }

        Code twin() {
            return new Ring(space);
        }

        Code changed() {
            return new Line(space);
        }

        int hefted() {
            return super.hefted() + 1000;
        }
    }

    /** A LINE within its DUAL. */
    private static final class Own extends Line {
        Own(Space space) {
            super(space);
        }

        int kind() {
            return OWN;
        }

        int refusalOf(long row) {
            if (space.productOf(row, row) != 0 || !isChecked(row)) {
                return NOT_STAYING;
            }
            return super.refusalOf(row);
        }

        Code twin() {
            return new Own(space);
        }

        int hefted() {
            return 2 * super.hefted();
        }
    }

    /**
     * The FORM of a LINE, as its ROWS come: whatever their order, it hangs on their sums alone. The HEAD of a row is
     * its first place with a letter but 0.
     */
    private static final class Form {
        final Space space;
        private final long[] rows;
        int rank;

        Form(Space space) {
            this.space = space;
            rows = new long[MOST_ROWS];
        }

        long at(int i) {
            return i >= 0 && i < rank && i < rows.length ? rows[i] : 0;
        }

        void extend(long row) {
            long rest = restOf(row);
            if (rest == 0 || rank < 0 || rank >= rows.length) {
                return;
            }
            int head = space.headOf(rest);
            long used = space.times(space.inverse(space.letter(rest, head)), rest);
            for (int i = 0; i < rank; i++) {
                rows[i] = space.cleared(rows[i], used, head);
            }
            // A row with an earlier HEAD is the greater number.
            int place = rank;
            while (place > 0 && rows[place - 1] < used) {
                rows[place] = rows[place - 1];
                place--;
            }
            rows[place] = used;
            rank++;
        }

        /** What is left of a word when it is cleared at all HEADS: 0 of the LINE's words alone. */
        long restOf(long word) {
            long rest = word;
            for (int i = 0; i < rank; i++) {
                rest = space.cleared(rest, at(i), space.headOf(at(i)));
            }
            return rest;
        }

        boolean isHead(int place) {
            for (int i = 0; i < rank; i++) {
                if (space.headOf(at(i)) == place) {
                    return true;
                }
            }
            return false;
        }

        /** The DUAL's ROW for a place that is no HEAD. */
        long dualRow(int free) {
            long row = space.withLetter(1, free);
            for (int i = 0; i < rank; i++) {
                row |= space.withLetter(space.negative(space.letter(at(i), free)), space.headOf(at(i)));
            }
            return row;
        }
    }

    /** A ROW on a SHELF, of bytes or of longs. Those of bytes hold letters alone: all are kept as longs. */
    private static final class Row extends Held {
        final int kind;
        private final long[] elements;

        Row(int kind, int n) {
            this.kind = kind;
            elements = new long[Math.max(n, 0)];
        }

        boolean holds(int from, int n) {
            return from >= 0 && n >= 0 && n <= elements.length && from <= elements.length - n;
        }

        long at(int i) {
            return holds(i, 1) ? elements[i] : 0;
        }

        void set(int i, long element) {
            if (holds(i, 1)) {
                elements[i] = element;
            }
        }

        void take(Row other, int i, int j, int n) {
            if (other.holds(i, n) && holds(j, n)) {
                System.arraycopy(other.elements, i, elements, j, n);
            }
        }
    }
}
