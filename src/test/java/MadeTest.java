/** Promises 27 to 34: longer, cut, shorter, join, list, turn, same, design. */
public final class MadeTest {
    private static final Due due = new Due("MadeTest");

    public static void main(String[] args) {
        longer();
        cut();
        shorter();
        join();
        joinRefusals();
        list();
        turn();
        turnRefusals();
        same();
        design();
        refusals();
        due.end();
    }

    private static void words(String call, WordBench x, int place, int kind, int n, long... words) {
        due.is(call + ": KIND", x.look(place, 0), kind);
        due.is(call + ": n", x.look(place, 2), n);
        due.is(call + ": how many", x.look(place, 3), words.length);
        for (int i = 0; i < words.length && i < x.look(place, 3); i++) {
            due.is(call + ": word " + i, x.word(place, i), words[i]);
        }
    }

    private static void longer() {
        WordBench x = Due.with(0, 3, 2, 4, 0, 5);
        due.is("27 longer: LISTED", x.longer(0, 1), 3);
        words("27 longer: LISTED", x, 1, 0, 3, 13, 0, 15);
        x = Due.with(1, 5, 2, 7, 7, 24);
        due.is("27 longer: a LINE", x.longer(0, 0), 3);
        words("27 longer: a LINE", x, 0, 1, 3, 37, 37, 122);
        x = Due.with(3, 4, 2, 5);
        due.is("27 longer: OWN", x.longer(0, 1), 1);
        words("27 longer: OWN becomes a LINE", x, 1, 1, 3, 20);
        x.ring(0, 4, 2, 9);
        due.is("27 longer: a RING", x.longer(0, 1), 1);
        words("27 longer: a RING becomes a LINE", x, 1, 1, 3, 27);
        x.make(0, 1, 2, 12);
        due.is("27 longer: n is 12", x.longer(0, 1), -6);
        words("27 longer: what is refused changes nothing", x, 1, 1, 3, 27);
        x.make(0, 0, 2, 11);
        due.is("27 longer: n is 11, no word", x.longer(0, 0), 0);
        words("27 longer: n is 11", x, 0, 0, 12);
    }

    private static void cut() {
        WordBench x = Due.with(0, 3, 3, 26, 17, 5, 0, 8);
        due.is("28 cut: LISTED, place 0", x.cut(0, 0, 1), 3);
        words("28 cut: LISTED, once each", x, 1, 0, 2, 8, 5, 0);
        due.is("28 cut: LISTED, place 2", x.cut(0, 2, 1), 5);
        words("28 cut: LISTED, place 2", x, 1, 0, 2, 8, 5, 1, 0, 2);
        x = Due.with(1, 2, 3, 6, 4, 6);
        due.is("28 cut: a LINE, place 1", x.cut(0, 1, 0), 3);
        words("28 cut: a LINE, ROWS as they are", x, 0, 1, 2, 2, 2, 2);
        x = Due.with(3, 2, 4, 15);
        due.is("28 cut: OWN", x.cut(0, 3, 0), 1);
        words("28 cut: OWN becomes a LINE", x, 0, 1, 3, 7);
        x.ring(0, 5, 12, 1);
        due.is("28 cut: a RING", x.cut(0, 11, 0), 12);
        due.is("28 cut: a RING becomes a LINE", x.look(0, 0), 1);
        due.is("28 cut: a RING, RANK", x.look(0, 4), 11);
        due.is("28 cut: the last ROW", x.word(0, 11), 0);
        due.is("28 cut: the first ROW", x.word(0, 0), 9765625);
        x.make(0, 1, 2, 2);
        due.is("28 cut: n is 2", x.cut(0, 1, 0), 0);
        due.is("28 cut: n is 1", x.cut(0, 0, 0), -1);
    }

    private static void shorter() {
        WordBench x = Due.with(0, 3, 3, 26, 17, 5, 0, 8);
        due.is("29 shorter: LISTED", x.shorter(0, 0, 1), 3);
        words("29 shorter: LISTED", x, 1, 0, 2, 5, 0, 8);
        due.is("29 shorter: LISTED, none left", x.shorter(0, 1, 1), 1);
        words("29 shorter: LISTED, place 1", x, 1, 0, 2, 0);
        x = Due.with(1, 5, 3, 1, 56, 111, 60);
        due.is("29 shorter: a LINE", x.shorter(0, 0, 1), 3);
        // 0 0 1; from 4 2 1 twice 2 1 1 is taken: 0 0 4; from 2 2 0 once: 0 1 4.
        words("29 shorter: a LINE", x, 1, 1, 2, 1, 4, 9);
        x = Due.with(1, 3, 3, 14, 9, 1);
        due.is("29 shorter: a LINE, its first ROW goes", x.shorter(0, 0, 1), 2);
        // From 1 0 0 once 1 1 2 is taken: 0 2 1.
        words("29 shorter: a LINE, its first ROW goes", x, 1, 1, 2, 7, 1);
        x = Due.with(1, 4, 2, 3, 1);
        due.is("29 shorter: a LINE with 0 there", x.shorter(0, 0, 0), 2);
        words("29 shorter: a LINE with 0 there", x, 0, 1, 1, 3, 1);
        due.is("29 shorter: n is 1", x.shorter(0, 0, 0), -1);
        x = Due.with(3, 2, 4, 12, 3);
        due.is("29 shorter: OWN", x.shorter(0, 3, 0), 1);
        words("29 shorter: OWN becomes a LINE", x, 0, 1, 3, 6);
        x.ring(0, 2, 3, 3);
        due.is("29 shorter: a RING", x.shorter(0, 1, 0), 1);
        words("29 shorter: a RING becomes a LINE", x, 0, 1, 2, 3);
    }

    private static void join() {
        WordBench x = Due.with(1, 3, 2, 5, 1);
        x.ring(1, 3, 2, 7);
        due.is("30 join: ROWS of both", x.join(0, 1, 0, 2), 3);
        words("30 join: ROWS of both", x, 2, 1, 2, 5, 1, 5);
        due.is("30 join: side by side", x.join(0, 1, 1, 2), 3);
        words("30 join: side by side", x, 2, 1, 4, 45, 9, 5);
        due.is("30 join: a behind itself", x.join(0, 1, 2, 2), 3);
        words("30 join: a behind itself", x, 2, 1, 4, 50, 10, 5);
        x.make(3, 1, 3, 1);
        x.add(3, 2);
        due.is("30 join: unlike lengths side by side", x.join(0, 3, 1, 2), 3);
        words("30 join: unlike lengths side by side", x, 2, 1, 3, 15, 3, 2);
        due.is("30 join: the other way round", x.join(3, 0, 1, 2), 3);
        words("30 join: the other way round", x, 2, 1, 3, 18, 5, 1);
        due.is("30 join: with itself onto itself", x.join(0, 0, 2, 0), 4);
        words("30 join: with itself onto itself", x, 0, 1, 4, 50, 10, 5, 1);
        x = Due.with(3, 2, 2, 3);
        due.is("30 join: OWN", x.join(0, 0, 0, 1), 2);
        words("30 join: OWN becomes a LINE", x, 1, 1, 2, 3, 3);
    }

    private static void joinRefusals() {
        WordBench x = Due.with(1, 2, 6, 5, 1);
        x.make(1, 1, 2, 7);
        x.make(2, 1, 3, 6);
        x.make(3, 0, 2, 6);
        x.ring(4, 2, 11, 1);
        x.ring(5, 2, 11, 6);
        due.is("30 join: how -1", x.join(0, 0, -1, 6), -1);
        due.is("30 join: how 3, ahead of empty", x.join(7, 0, 3, 6), -1);
        due.is("30 join: place -1", x.join(-1, 0, 0, 6), -1);
        due.is("30 join: other 12, ahead of empty", x.join(7, 12, 0, 6), -1);
        due.is("30 join: to 12", x.join(0, 0, 0, 12), -1);
        due.is("30 join: empty", x.join(7, 0, 0, 6), -11);
        due.is("30 join: both empty", x.join(7, 8, 0, 6), -11);
        due.is("30 join: other empty", x.join(0, 7, 0, 6), -11);
        due.is("30 join: the first is LISTED, ahead of other empty", x.join(3, 7, 0, 6), -12);
        due.is("30 join: the first is empty, ahead of other LISTED", x.join(7, 3, 0, 6), -11);
        due.is("30 join: other 12, ahead of LISTED", x.join(3, 12, 0, 6), -1);
        due.is("30 join: to 12, ahead of LISTED", x.join(3, 0, 0, 12), -1);
        due.is("30 join: how 3, ahead of LISTED", x.join(3, 0, 3, 6), -1);
        due.is("30 join: LISTED", x.join(3, 0, 0, 6), -12);
        due.is("30 join: other LISTED, ahead of unlike", x.join(2, 3, 0, 6), -12);
        due.is("30 join: unlike FIELDS", x.join(0, 2, 1, 6), -4);
        due.is("30 join: unlike lengths, how 0", x.join(0, 1, 0, 6), -4);
        due.is("30 join: unlike lengths, how 2", x.join(0, 1, 2, 6), -4);
        due.is("30 join: 13 places", x.join(0, 1, 1, 6), -6);
        due.is("30 join: 12 places", x.join(0, 0, 1, 6), 4);
        due.is("30 join: 14 places", x.join(1, 1, 2, 6), -6);
        due.is("30 join: 20 ROWS", x.join(4, 5, 0, 6), -6);
        due.is("30 join: what is refused changes nothing", x.look(6, 3), 4);
        x.make(7, 1, 2, 11);
        x.add(7, 1);
        due.is("30 join: 12 ROWS", x.join(4, 7, 0, 6), 12);
        x.add(7, 1);
        due.is("30 join: 13 ROWS", x.join(4, 7, 0, 6), -6);
        due.is("30 join: 13 ROWS, unlike ahead", x.join(4, 2, 0, 6), -4);
    }

    private static void list() {
        WordBench x = Due.with(1, 3, 3, 19, 2);
        due.is("31 list", x.list(0, 0), 9);
        words("31 list: by numbers", x, 0, 0, 3, 0, 1, 2, 9, 10, 11, 18, 19, 20);
        due.is("31 list: LISTED", x.list(0, 1), -12);
        x = Due.with(1, 4, 2);
        due.is("31 list: of no ROW", x.list(0, 1), 1);
        words("31 list: of no ROW", x, 1, 0, 2, 0);
        x = Due.with(1, 4, 2, 7);
        x.list(0, 1);
        words("31 list: of 4", x, 1, 0, 2, 0, 7, 9, 14);
        x.ring(0, 5, 3, 1);
        due.is("31 list: 125", x.list(0, 1), 125);
        due.is("31 list: 125, the last", x.word(1, 124), 124);
        x.ring(0, 2, 8, 1);
        due.is("31 list: 256", x.list(0, 1), -6);
        x.ring(0, 2, 12, 1);
        due.is("31 list: 4096", x.list(0, 1), -6);
        x.ring(0, 3, 8, 1);
        due.is("31 list: 6561", x.list(0, 1), -5);
        due.is("31 list: what is refused changes nothing", x.look(1, 3), 125);
    }

    private static void turn() {
        WordBench x = Due.with(0, 5, 3, 5, 38, 0);
        due.is("32 turn: place 0 to 1, 1 to 2, 2 to 0; all twice", x.turn(0, 0x021, 2, 1), 3);
        // 0 1 0 comes to 0 0 1; 1 2 3 to 3 1 2.
        words("32 turn: LISTED", x, 1, 0, 3, 2, 25 + 10 + 4, 0);
        x = Due.with(1, 4, 2, 6, 6);
        due.is("32 turn: a LINE, 3 times", x.turn(0, 0x01, 3, 0), 2);
        words("32 turn: 1 2 is 2 1, and 3 times that 1 3", x, 0, 1, 2, 7, 7);
        x = Due.with(3, 2, 4, 12);
        x.turn(0, 0x0213, 1, 0);
        words("32 turn: OWN stays OWN", x, 0, 3, 4, 5);
        x.ring(0, 3, 3, 4);
        x.turn(0, 0x210, 1, 0);
        words("32 turn: a RING becomes a LINE", x, 0, 1, 3, 12, 4);
        x.ring(0, 5, 12, 3);
        due.is("32 turn: of 12 places", x.turn(0, 0x0123456789ABL, 4, 1), 12);
        due.is("32 turn: of 12 places, the first ROW", x.word(1, 0), 2);
    }

    private static void turnRefusals() {
        WordBench x = Due.with(1, 3, 3, 5);
        x.make(1, 0, 2, 2);
        due.is("32 turn: c 0", x.turn(0, 0x210, 0, 1), -1);
        due.is("32 turn: c 3", x.turn(0, 0x210, 3, 1), -1);
        due.is("32 turn: c -1", x.turn(0, 0x210, -1, 1), -1);
        due.is("32 turn: twice to a place", x.turn(0, 0x110, 1, 1), -1);
        due.is("32 turn: to place 3", x.turn(0, 0x310, 1, 1), -1);
        due.is("32 turn: to place 15", x.turn(0, 0xF10, 1, 1), -1);
        due.is("32 turn: none to place 0", x.turn(0, 0x211, 1, 1), -1);
        due.is("32 turn: a digit more", x.turn(0, 0x3210, 1, 1), -1);
        due.is("32 turn: digits that are 0 alike", x.turn(0, 0x2, 1, 1), -1);
        due.is("32 turn: below 0", x.turn(0, ~0xFFFL | 0x210, 1, 1), -1);
        due.is("32 turn: far digits", x.turn(0, 1L << 60 | 0x210, 1, 1), -1);
        due.is("32 turn: empty, no TURN either", x.turn(2, -1, 9, 1), -11);
        due.is("32 turn: what is refused changes nothing", x.look(1, 0), 0);
        due.is("32 turn: is one", x.turn(0, 0x210, 2, 1), 1);
    }

    private static void same() {
        WordBench x = Due.with(1, 3, 3, 9, 1);
        x.make(1, 1, 3, 3);
        x.add(1, 11);
        x.add(1, 10);
        x.add(1, 19);
        due.is("33 same: LINES", x.same(0, 1), 1);
        x.add(1, 3);
        due.is("33 same: LINES, one has more", x.same(0, 1), 0);
        due.is("33 same: LINES, the other has more", x.same(1, 0), 0);
        x.ring(2, 3, 3, 1);
        due.is("33 same: a RING and a LINE", x.same(1, 2), 1);
        x.list(0, 3);
        due.is("33 same: a LINE and a LISTED one", x.same(0, 3), 1);
        due.is("33 same: a LISTED one and a LINE", x.same(3, 0), 1);
        due.is("33 same: an unlike LINE", x.same(3, 1), 0);
        x.turn(3, 0x102, 2, 4);
        due.is("33 same: LISTED ones in another order", x.same(3, 4), 0);
        x.turn(3, 0x012, 2, 4);
        due.is("33 same: LISTED ones in another order", x.same(3, 4), 1);
        x.add(4, 3);
        due.is("33 same: LISTED ones, one more", x.same(3, 4), 0);
        due.is("33 same: with itself", x.same(3, 3), 1);
        x.make(5, 0, 3, 3);
        x.make(6, 1, 3, 3);
        due.is("33 same: no word and zeros", x.same(5, 6), 0);
        x.add(5, 0);
        due.is("33 same: both zeros", x.same(5, 6), 1);
        x.make(5, 0, 2, 2);
        x.add(5, 1);
        x.add(5, 2);
        x.make(6, 1, 2, 2);
        x.add(6, 1);
        due.is("33 same: as many, its ROW there, zeros not", x.same(6, 5), 0);
        due.is("33 same: as many, the other way", x.same(5, 6), 0);
        sameRefusals(x);
    }

    private static void sameRefusals(WordBench x) {
        x.make(7, 1, 3, 2);
        due.is("33 same: unlike lengths", x.same(0, 7), -4);
        due.is("33 same: unlike FIELDS", x.same(6, 7), -4);
        x.make(1, 0, 2, 2);
        x.make(2, 0, 2, 2);
        x.add(1, 1);
        x.add(1, 3);
        x.add(2, 2);
        x.add(2, 3);
        due.is("33 same: LISTED ones, the first word is another", x.same(1, 2), 0);
        due.is("33 same: empty", x.same(11, 0), -11);
        due.is("33 same: other empty", x.same(0, 11), -11);
        due.is("33 same: place -1", x.same(-1, 0), -1);
        due.is("33 same: other 12, ahead of empty", x.same(11, 12), -1);
        x.ring(8, 5, 12, 1);
        x.ring(9, 5, 12, 2);
        due.is("33 same: LINES are never SPENT", x.same(8, 9), 1);
        x.make(9, 0, 5, 12);
        due.is("33 same: SPENT", x.same(8, 9), -5);
        due.is("33 same: SPENT, the other way", x.same(9, 8), -5);
        x.ring(10, 2, 12, 1);
        x.make(11, 0, 2, 12);
        due.is("33 same: 4096 are not SPENT", x.same(10, 11), 0);
        x.empty(11);
        x.make(9, 0, 5, 11);
        due.is("33 same: unlike ahead of SPENT", x.same(9, 8), -4);
    }

    private static void design() {
        WordBench x = new WordBench();
        x.ring(0, 2, 7, 11);
        int blocks = 0;
        for (int i = 0; i < 7; i++) {
            for (int j = i + 1; j < 7; j++) {
                due.is("34 design: each two places once", x.design(0, 3, 1 << i | 1 << j), 1);
            }
            blocks += x.design(0, 3, 1 << i);
        }
        due.is("34 design: seven of three", blocks, 21);
        due.is("34 design: no place asked", x.design(0, 3, 0), 7);
        due.is("34 design: WEIGHT 0", x.design(0, 0, 0), 1);
        due.is("34 design: WEIGHT 0 at a place", x.design(0, 0, 1), 0);
        due.is("34 design: all places", x.design(0, 7, 127), 1);
        x = Due.with(0, 3, 3, 18, 10, 2, 26, 24);
        due.is("34 design: LISTED, place 0 is bit 0", x.design(0, 1, 1), 1);
        due.is("34 design: LISTED, two", x.design(0, 2, 1), 2);
        due.is("34 design: LISTED, 2 2 0", x.design(0, 2, 3), 1);
        due.is("34 design: LISTED, none", x.design(0, 2, 6), 0);
        due.is("34 design: w -1", x.design(0, -1, 0), -1);
        due.is("34 design: w 4", x.design(0, 4, 0), -1);
        due.is("34 design: bits of no place", x.design(0, 1, 8), -1);
        due.is("34 design: bits below 0", x.design(0, 1, -1), -1);
        due.is("34 design: empty, no bits either", x.design(1, 99, -1), -11);
        due.is("34 design: place -1", x.design(-1, 0, 0), -1);
        due.is("34 design: place 12", x.design(12, 0, 0), -1);
        x.ring(1, 4, 7, 1);
        due.is("34 design: SPENT", x.design(1, 1, 1), -5);
        due.is("34 design: w ahead of SPENT", x.design(1, 8, 1), -1);
        x.make(2, 0, 2, 2);
        due.is("34 design: no word", x.design(2, 0, 0), 0);
    }

    /** What longer, cut, shorter, list and turn refuse alike. */
    private static void refusals() {
        WordBench x = Due.with(1, 2, 3, 5);
        for (int no : new int[] {-1, 12, Integer.MIN_VALUE, Integer.MAX_VALUE}) {
            due.is("27 longer: place", x.longer(no, 0), -1);
            due.is("27 longer: to, ahead of empty", x.longer(1, no), -1);
            due.is("28 cut: place", x.cut(no, 0, 0), -1);
            due.is("28 cut: to, ahead of empty", x.cut(1, 0, no), -1);
            due.is("29 shorter: place", x.shorter(no, 0, 0), -1);
            due.is("29 shorter: to, ahead of empty", x.shorter(1, 0, no), -1);
            due.is("31 list: place", x.list(no, 0), -1);
            due.is("31 list: to, ahead of empty", x.list(1, no), -1);
            due.is("32 turn: place", x.turn(no, 0x210, 1, 0), -1);
            due.is("32 turn: to, ahead of empty", x.turn(1, 0x210, 1, no), -1);
        }
        due.is("27 longer: empty", x.longer(1, 0), -11);
        due.is("28 cut: empty", x.cut(1, 99, 0), -11);
        due.is("29 shorter: empty", x.shorter(1, 99, 0), -11);
        due.is("31 list: empty", x.list(1, 0), -11);
        due.is("28 cut: place 3 of 3", x.cut(0, 3, 0), -1);
        due.is("28 cut: place -1 of 3", x.cut(0, -1, 0), -1);
        due.is("29 shorter: place 3 of 3", x.shorter(0, 3, 0), -1);
        due.is("29 shorter: place -1 of 3", x.shorter(0, -1, 0), -1);
        words("what is refused changes nothing", x, 0, 1, 3, 5);
    }
}
