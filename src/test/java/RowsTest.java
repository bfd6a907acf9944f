/** Promises 35 to 40: keep, row, element, copy, heft, toss. */
public final class RowsTest {
    private static final Class<IllegalArgumentException> ARGUMENT = IllegalArgumentException.class;
    private static final Class<IllegalStateException> STATE = IllegalStateException.class;

    private static final Due due = new Due("RowsTest");

    public static void main(String[] args) {
        keepCode();
        keepRows();
        keepRefusals();
        row();
        element();
        copy();
        copyRefusals();
        heft();
        toss();
        due.end();
    }

    private static void keepCode() {
        WordBench x = Due.with(0, 3, 2, 7, 2);
        due.is("35 keep: a CODE, k does not matter", x.keep(5, 1, 0, -9), 0);
        x.add(0, 1);
        due.is("35 keep: as it was then", x.heft(5), 2);
        x.make(0, 1, 2, 2);
        due.is("35 keep: as it was then", x.heft(5), 2);
        x.keep(4, 1, 0, 0);
        x.add(0, 1);
        due.is("35 keep: a LINE as it was then", x.heft(4), 100);
        due.is("35 keep: a CODE without words", x.keep(4, 1, 0, 0), 0);
        due.is("35 keep: nothing", x.keep(4, 0, -5, -5), 0);
        due.is("35 keep: nothing is there", x.heft(4), -11);
    }

    private static void keepRows() {
        WordBench x = Due.with(0, 5, 3, 7, 119);
        due.is("35 keep: letters", x.keep(0, 3, 0, 1), 0);
        due.is("35 keep: letter 0", x.element(0, 0), 4);
        due.is("35 keep: letter 1", x.element(0, 1), 3);
        due.is("35 keep: letter 2", x.element(0, 2), 4);
        due.fails("35 keep: no letter 3", STATE, () -> x.element(0, 3));
        due.is("35 keep: words", x.keep(0, 4, 0, -1), 0);
        due.is("35 keep: word 0", x.element(0, 0), 7);
        due.is("35 keep: word 1", x.element(0, 1), 119);
        due.fails("35 keep: no word 2", STATE, () -> x.element(0, 2));
        x.ring(1, 2, 12, 1);
        x.keep(1, 4, 1, 0);
        due.is("35 keep: ROWS", x.element(1, 11), 1);
        x.ring(2, 5, 3, 1);
        x.list(2, 2);
        x.keep(2, 4, 2, 0);
        due.is("35 keep: 125 words", x.element(2, 124), 124);
        x.make(3, 0, 2, 2);
        due.is("35 keep: no words", x.keep(2, 4, 3, 0), 0);
        due.fails("35 keep: no words, none to see", STATE, () -> x.element(2, 0));
        due.is("35 keep: no words, a ROW all the same", x.copy(2, 0, 2, 0, 0), 0);
    }

    private static void keepRefusals() {
        WordBench x = Due.with(1, 5, 3, 7, 119);
        x.keep(0, 1, 0, 0);
        due.is("35 keep: shelf -1", x.keep(-1, 0, 0, 0), -1);
        due.is("35 keep: shelf 6", x.keep(6, 1, 0, 0), -1);
        due.is("35 keep: what -1", x.keep(0, -1, 0, 0), -1);
        due.is("35 keep: what 2", x.keep(0, 2, 0, 0), -1);
        due.is("35 keep: what 5", x.keep(0, 5, 0, 0), -1);
        due.is("35 keep: place -1", x.keep(0, 1, -1, 0), -1);
        due.is("35 keep: place 12", x.keep(0, 3, 12, 0), -1);
        due.is("35 keep: empty", x.keep(0, 1, 1, 0), -11);
        due.is("35 keep: empty, letters", x.keep(0, 3, 1, -1), -11);
        due.is("35 keep: empty, words", x.keep(0, 4, 1, 0), -11);
        due.is("35 keep: no word 2", x.keep(0, 3, 0, 2), -2);
        due.is("35 keep: no word -1", x.keep(0, 3, 0, -1), -2);
        due.is("35 keep: what is refused changes nothing", x.heft(0), 120);
    }

    private static void row() {
        WordBench x = new WordBench();
        due.is("36 row: 60 bytes", x.row(0, 3, 60), 0);
        due.is("36 row: the last", x.element(0, 59), 0);
        due.fails("36 row: no 60", STATE, () -> x.element(0, 60));
        due.is("36 row: 2 longs", x.row(5, 4, 2), 0);
        due.is("36 row: the last", x.element(5, 1), 0);
        due.is("36 row: unlike kinds", x.copy(0, 0, 5, 0, 1), -12);
        due.is("36 row: none", x.row(1, 4, 0), 0);
        due.fails("36 row: none to see", STATE, () -> x.element(1, 0));
        due.is("36 row: 61", x.row(0, 3, 61), -1);
        due.is("36 row: below 0", x.row(0, 3, -1), -14);
        due.is("36 row: far below 0", x.row(0, 4, Integer.MIN_VALUE), -14);
        due.is("36 row: what 1", x.row(0, 1, 1), -1);
        due.is("36 row: what 2", x.row(0, 2, 1), -1);
        due.is("36 row: what 5", x.row(0, 5, 1), -1);
        due.is("36 row: what ahead of below 0", x.row(0, 0, -1), -1);
        due.is("36 row: shelf -1", x.row(-1, 3, 1), -1);
        due.is("36 row: shelf 6, ahead of below 0", x.row(6, 3, -1), -1);
        due.is("36 row: what is refused changes nothing", x.element(0, 59), 0);
        x.make(0, 0, 5, 2);
        x.add(0, 24);
        x.keep(0, 3, 0, 0);
        x.row(0, 3, 2);
        due.is("36 row: zeros again", x.element(0, 1), 0);
    }

    private static void element() {
        WordBench x = Due.with(1, 5, 12, 244140624);
        x.keep(0, 4, 0, 0);
        due.is("37 element", x.element(0, 0), 244140624);
        due.fails("37 element: 1", STATE, () -> x.element(0, 1));
        due.fails("37 element: -1", STATE, () -> x.element(0, -1));
        due.fails("37 element: far", STATE, () -> x.element(0, Integer.MAX_VALUE));
        due.fails("37 element: nothing held", STATE, () -> x.element(1, 0));
        x.keep(1, 1, 0, 0);
        due.fails("37 element: no ROW", STATE, () -> x.element(1, 0));
        due.fails("37 element: shelf -1", ARGUMENT, () -> x.element(-1, 0));
        due.fails("37 element: shelf 6", ARGUMENT, () -> x.element(6, -1));
    }

    private static void copy() {
        WordBench x = Due.with(0, 2, 5, 22);
        x.keep(0, 3, 0, 0);
        x.row(1, 3, 4);
        due.is("38 copy", x.copy(0, 0, 1, 1, 3), 3);
        elements("38 copy: to", x, 1, 0, 1, 0, 1);
        elements("38 copy: from stays", x, 0, 1, 0, 1, 1, 0);
        due.is("38 copy: onto itself, on", x.copy(0, 0, 0, 1, 4), 4);
        elements("38 copy: as they all were before", x, 0, 1, 1, 0, 1, 1);
        x.keep(0, 3, 0, 0);
        due.is("38 copy: onto itself, back", x.copy(0, 1, 0, 0, 4), 4);
        elements("38 copy: as they all were before", x, 0, 0, 1, 1, 0, 0);
        due.is("38 copy: none, from behind the end", x.copy(0, 5, 1, 4, 0), 0);
        x.add(0, 9);
        x.keep(2, 4, 0, 0);
        x.row(3, 4, 3);
        due.is("38 copy: longs", x.copy(2, 0, 3, 1, 2), 2);
        elements("38 copy: longs", x, 3, 0, 22, 9);
        due.is("38 copy: longs onto itself", x.copy(3, 0, 3, 1, 2), 2);
        elements("38 copy: longs onto itself", x, 3, 0, 0, 22);
    }

    private static void elements(String call, WordBench x, int d, long... want) {
        for (int i = 0; i < want.length; i++) {
            due.is(call + ", element " + i, x.element(d, i), want[i]);
        }
    }

    private static void copyRefusals() {
        WordBench x = Due.with(0, 2, 2, 3);
        x.keep(0, 3, 0, 0);
        x.row(1, 3, 4);
        x.row(2, 4, 4);
        x.keep(3, 1, 0, 0);
        due.is("38 copy: shelf -1", x.copy(-1, 0, 1, 0, 1), -1);
        due.is("38 copy: shelf 6, ahead of nothing held", x.copy(4, 0, 6, 0, 1), -1);
        due.is("38 copy: nothing held", x.copy(4, 0, 1, 0, 1), -11);
        due.is("38 copy: nothing held there, ahead of no ROW", x.copy(3, 0, 4, 0, 1), -11);
        due.is("38 copy: no ROW", x.copy(3, 0, 1, 0, 1), -12);
        due.is("38 copy: no ROW there", x.copy(1, 0, 3, 0, 1), -12);
        due.is("38 copy: two CODES", x.copy(3, 0, 3, 0, 1), -12);
        due.is("38 copy: bytes to longs, ahead of beyond", x.copy(1, 0, 2, 0, 99), -12);
        due.is("38 copy: longs to bytes", x.copy(2, 0, 1, 0, 1), -12);
        due.is("38 copy: n below 0", x.copy(0, 0, 1, 0, -1), -13);
        due.is("38 copy: i below 0", x.copy(0, -1, 1, 0, 1), -13);
        due.is("38 copy: j below 0", x.copy(0, 0, 1, -1, 1), -13);
        due.is("38 copy: beyond the first", x.copy(0, 1, 1, 0, 2), -13);
        due.is("38 copy: beyond the second", x.copy(0, 0, 1, 3, 2), -13);
        due.is("38 copy: none, beyond the first", x.copy(0, 3, 1, 0, 0), -13);
        due.is("38 copy: none, beyond the second", x.copy(0, 0, 1, 5, 0), -13);
        due.is("38 copy: far i", x.copy(0, Integer.MAX_VALUE, 1, 0, 1), -13);
        due.is("38 copy: far n", x.copy(0, 1, 1, 1, Integer.MAX_VALUE), -13);
        elements("38 copy: what is refused changes nothing", x, 1, 0, 0, 0, 0);
    }

    private static void heft() {
        WordBench x = Due.with(0, 2, 3);
        x.keep(0, 1, 0, 0);
        due.is("39 heft: no word", x.heft(0), 0);
        x.add(0, 1);
        x.keep(0, 1, 0, 0);
        due.is("39 heft: LISTED", x.heft(0), 1);
        x.make(1, 1, 2, 3);
        x.keep(1, 1, 1, 0);
        due.is("39 heft: a LINE without ROWS", x.heft(1), 100);
        x.add(1, 0);
        x.add(1, 0);
        x.keep(1, 1, 1, 0);
        due.is("39 heft: a LINE", x.heft(1), 120);
        x.ring(2, 3, 12, 1);
        x.keep(2, 1, 2, 0);
        due.is("39 heft: a RING", x.heft(2), 1220);
        x.form(2);
        x.keep(2, 1, 2, 0);
        due.is("39 heft: no longer a RING", x.heft(2), 220);
        x.make(3, 3, 2, 2);
        x.keep(3, 1, 3, 0);
        due.is("39 heft: OWN without ROWS", x.heft(3), 200);
        x.add(3, 3);
        x.keep(3, 1, 3, 0);
        due.is("39 heft: OWN", x.heft(3), 220);
        x.row(4, 3, 1);
        due.is("39 heft: a ROW of bytes", x.heft(4), -12);
        x.row(4, 4, 1);
        due.is("39 heft: a ROW of longs", x.heft(4), -12);
        due.is("39 heft: nothing held", x.heft(5), -11);
        due.is("39 heft: shelf -1", x.heft(-1), -1);
        due.is("39 heft: shelf 6", x.heft(6), -1);
    }

    private static void toss() {
        WordBench x = Due.with(0, 2, 3, 1);
        x.keep(0, 1, 0, 0);
        due.is("40 toss: LISTED", x.toss(0), -15);
        x.make(0, 1, 2, 12);
        x.keep(0, 1, 0, 0);
        due.is("40 toss: a LINE", x.toss(0), 12);
        due.is("40 toss: again", x.toss(0), 12);
        x.make(0, 3, 3, 1);
        x.keep(1, 1, 0, 0);
        due.is("40 toss: OWN", x.toss(1), 1);
        x.ring(0, 5, 4, 1);
        x.keep(2, 1, 0, 0);
        due.is("40 toss: a RING", x.toss(2), 4);
        x.row(3, 3, 1);
        due.is("40 toss: a ROW", x.toss(3), -12);
        due.is("40 toss: nothing held", x.toss(4), -11);
        due.is("40 toss: shelf -1", x.toss(-1), -1);
        due.is("40 toss: shelf 6", x.toss(6), -1);
    }
}
