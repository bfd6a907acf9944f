/** Promises 1 to 9: a new object, make, add, ring, empty, look, word, size, in. */
public final class PlacesTest {
    private static final Class<IllegalArgumentException> ARGUMENT = IllegalArgumentException.class;
    private static final Class<IllegalStateException> STATE = IllegalStateException.class;

    private static final Due due = new Due("PlacesTest");

    public static void main(String[] args) {
        newObject();
        make();
        add();
        addToOwn();
        ring();
        empty();
        look();
        word();
        size();
        in();
        due.end();
    }

    private static void newObject() {
        WordBench x = new WordBench();
        for (int place = 0; place < 12; place++) {
            due.is("1 new: look", x.look(place, 0), -11);
            due.is("1 new: empty", x.empty(place), 0);
        }
        for (int d = 0; d < 6; d++) {
            due.is("1 new: heft", x.heft(d), -11);
        }
        x.make(0, 0, 2, 3);
        due.is("1 another new one", new WordBench().empty(0), 0);
    }

    private static void make() {
        WordBench x = new WordBench();
        for (int kind : new int[] {0, 1, 3}) {
            for (int q = 2; q <= 5; q++) {
                for (int n = 1; n <= 12; n++) {
                    due.is("2 make", x.make(11, kind, q, n), 0);
                    due.is("2 make: KIND", x.look(11, 0), kind);
                    due.is("2 make: q", x.look(11, 1), q);
                    due.is("2 make: n", x.look(11, 2), n);
                    due.is("2 make: words", x.look(11, 3), 0);
                }
            }
        }
        x.make(0, 0, 2, 3);
        x.add(0, 5);
        due.is("2 make: place -1", x.make(-1, 0, 2, 3), -1);
        due.is("2 make: place 12", x.make(12, 0, 2, 3), -1);
        due.is("2 make: a RING", x.make(0, 2, 2, 3), -1);
        due.is("2 make: kind -1", x.make(0, -1, 2, 3), -1);
        due.is("2 make: kind 4", x.make(0, 4, 2, 3), -1);
        due.is("2 make: q 1", x.make(0, 0, 1, 3), -1);
        due.is("2 make: q 6", x.make(0, 0, 6, 3), -1);
        due.is("2 make: n 0", x.make(0, 0, 2, 0), -1);
        due.is("2 make: n 13", x.make(0, 0, 2, 13), -1);
        due.is("2 make: what is refused changes nothing", x.look(0, 3), 1);
        due.is("2 make over a CODE", x.make(0, 1, 3, 2), 0);
        due.is("2 make over a CODE: its words are gone", x.look(0, 3), 0);
    }

    private static void add() {
        WordBench x = new WordBench();
        x.make(0, 0, 3, 5);
        for (int k = 0; k < 200; k++) {
            due.is("3 add to LISTED", x.add(0, 242 - k), k + 1);
        }
        due.is("3 add: a word that is there, ahead of no room", x.add(0, 43), -3);
        due.is("3 add: the 201st", x.add(0, 42), -6);
        due.is("3 add: no word ahead of no room", x.add(0, 243), -1);
        due.is("3 add: all stand", x.look(0, 3), 200);
        x.make(1, 1, 2, 4);
        for (int k = 0; k < 12; k++) {
            due.is("3 add to a LINE, the same ROW again", x.add(1, 9), k + 1);
        }
        due.is("3 add: a 13th ROW", x.add(1, 0), -6);
        due.is("3 add: -1", x.add(1, -1), -1);
        due.is("3 add: 16", x.add(1, 16), -1);
        due.is("3 add: place -1", x.add(-1, 0), -1);
        due.is("3 add: place 12", x.add(12, 0), -1);
        due.is("3 add: empty, no word either", x.add(2, -1), -11);
        x.ring(2, 2, 4, 3);
        due.is("3 add to a RING", x.add(2, 1), -12);
        due.is("3 add to a RING: no word", x.add(2, 16), -1);
        due.is("3 add to a RING changes nothing", x.look(2, 3), 3);
        x.make(3, 0, 5, 12);
        due.is("3 add: the greatest word", x.add(3, 244140624), 1);
        due.is("3 add: one more is none", x.add(3, 244140625), -1);
        due.is("3 add: far beyond", x.add(3, Long.MAX_VALUE), -1);
        due.is("3 add: far below", x.add(3, Long.MIN_VALUE), -1);
    }

    private static void addToOwn() {
        WordBench x = new WordBench();
        x.make(0, 3, 2, 4);
        due.is("3 add to OWN: with itself 1", x.add(0, 8), -3);
        due.is("3 add to OWN", x.add(0, 12), 1);
        due.is("3 add to OWN: with the other 1", x.add(0, 6), -3);
        due.is("3 add to OWN: twice", x.add(0, 12), 2);
        due.is("3 add to OWN: zeros", x.add(0, 0), 3);
        due.is("3 add to OWN: a third", x.add(0, 3), 4);
        for (int k = 5; k <= 12; k++) {
            due.is("3 add to OWN: on", x.add(0, 15), k);
        }
        due.is("3 add to OWN: full", x.add(0, 15), -6);
        due.is("3 add to OWN: not staying ahead of full", x.add(0, 1), -3);
        x.make(1, 3, 4, 2);
        due.is("3 add to OWN of 4: 1 and 1", x.add(1, 5), 1);
        due.is("3 add to OWN of 4: 1 and 2", x.add(1, 6), -3);
        x.make(2, 3, 5, 2);
        due.is("3 add to OWN of 5: 1 and 2", x.add(2, 7), 1);
        due.is("3 add to OWN of 5: 2 and 1", x.add(2, 11), -3);
    }

    private static void ring() {
        WordBench x = new WordBench();
        due.is("4 ring", x.ring(0, 3, 5, 15), 3);
        due.is("4 ring: ROW 0 is 0 2 1 0 0", x.word(0, 0), 63);
        due.is("4 ring: ROW 1", x.word(0, 1), 21);
        due.is("4 ring: ROW 2", x.word(0, 2), 7);
        due.is("4 ring: KIND", x.look(0, 0), 2);
        due.is("4 ring: q", x.look(0, 1), 3);
        due.is("4 ring: n", x.look(0, 2), 5);
        due.is("4 ring: of degree 0", x.ring(1, 4, 12, 3), 12);
        due.is("4 ring: of degree 0, the last ROW", x.word(1, 11), 3);
        due.is("4 ring: of degree n - 1", x.ring(1, 2, 3, 4), 1);
        due.is("4 ring: of degree n - 1, its ROW", x.word(1, 0), 1);
        due.is("4 ring: of degree n", x.ring(1, 2, 3, 8), -1);
        due.is("4 ring: 0", x.ring(1, 2, 3, 0), -1);
        due.is("4 ring: below 0", x.ring(1, 2, 3, -3), -1);
        due.is("4 ring: q 1", x.ring(1, 1, 3, 1), -1);
        due.is("4 ring: q 6", x.ring(1, 6, 3, 1), -1);
        due.is("4 ring: n 0", x.ring(1, 2, 0, 1), -1);
        due.is("4 ring: n 13", x.ring(1, 2, 13, 1), -1);
        due.is("4 ring: place -1", x.ring(-1, 2, 3, 1), -1);
        due.is("4 ring: place 12", x.ring(12, 2, 3, 1), -1);
        due.is("4 ring: what is refused changes nothing", x.look(1, 3), 1);
    }

    private static void empty() {
        WordBench x = new WordBench();
        x.make(11, 1, 2, 2);
        due.is("5 empty", x.empty(11), 1);
        due.is("5 empty again", x.empty(11), 0);
        due.is("5 empty: it is", x.look(11, 0), -11);
        due.is("5 empty: place -1", x.empty(-1), -1);
        due.is("5 empty: place 12", x.empty(12), -1);
    }

    private static void look() {
        WordBench x = new WordBench();
        x.make(0, 1, 5, 3);
        due.is("6 look: RANK of none", x.look(0, 4), 0);
        due.is("6 look: none is within its DUAL", x.look(0, 5), 1);
        x.add(0, 7);
        x.add(0, 14);
        x.add(0, 0);
        due.is("6 look: ROWS", x.look(0, 3), 3);
        due.is("6 look: RANK", x.look(0, 4), 1);
        due.is("6 look: within its DUAL (1 2 is)", x.look(0, 5), 1);
        x.add(0, 25);
        due.is("6 look: RANK", x.look(0, 4), 2);
        due.is("6 look: no longer within its DUAL", x.look(0, 5), 0);
        x.make(1, 1, 2, 2);
        x.add(1, 1);
        due.is("6 look: one ROW, with itself 1", x.look(1, 5), 0);
        x.make(1, 0, 4, 2);
        x.add(1, 3);
        due.is("6 look: LISTED", x.look(1, 0), 0);
        due.is("6 look: LISTED words", x.look(1, 3), 1);
        due.is("6 look: LISTED has no RANK", x.look(1, 4), -12);
        due.is("6 look: LISTED has no DUAL", x.look(1, 5), -12);
        due.is("6 look: what -1", x.look(1, -1), -1);
        due.is("6 look: what 6, ahead of empty", x.look(2, 6), -1);
        due.is("6 look: empty", x.look(2, 0), -11);
        due.is("6 look: place -1", x.look(-1, 0), -1);
        due.is("6 look: place 12", x.look(12, 0), -1);
        x.ring(3, 2, 4, 5);
        due.is("6 look: a RING's RANK", x.look(3, 4), 2);
        due.is("6 look: a RING within its DUAL", x.look(3, 5), 1);
        x.make(4, 1, 2, 3);
        x.add(4, 6);
        x.add(4, 3);
        due.is("6 look: each with itself 0, but not the two", x.look(4, 5), 0);
    }

    private static void word() {
        WordBench x = new WordBench();
        x.make(0, 0, 5, 12);
        x.add(0, 244140624);
        x.add(0, 123456789);
        due.is("7 word 0", x.word(0, 0), 244140624);
        due.is("7 word 1", x.word(0, 1), 123456789);
        due.fails("7 word 2", STATE, () -> x.word(0, 2));
        due.fails("7 word -1", STATE, () -> x.word(0, -1));
        due.fails("7 word: empty", STATE, () -> x.word(1, 0));
        due.fails("7 word: place -1", ARGUMENT, () -> x.word(-1, -1));
        due.fails("7 word: place 12", ARGUMENT, () -> x.word(12, 0));
        x.make(1, 1, 4, 2);
        x.add(1, 13);
        x.add(1, 13);
        due.is("7 ROW 1", x.word(1, 1), 13);
        due.fails("7 ROW 2", STATE, () -> x.word(1, 2));
    }

    private static void size() {
        WordBench x = new WordBench();
        x.make(0, 0, 3, 2);
        due.is("8 size: no word", x.size(0), 0);
        x.add(0, 4);
        due.is("8 size", x.size(0), 1);
        x.make(1, 1, 5, 12);
        due.is("8 size: of no ROW", x.size(1), 1);
        x.ring(1, 5, 12, 1);
        due.is("8 size: all words", x.size(1), 244140625);
        x.make(2, 3, 2, 2);
        x.add(2, 3);
        x.add(2, 3);
        due.is("8 size: q to the RANK", x.size(2), 2);
        due.is("8 size: empty", x.size(3), -11);
        due.is("8 size: place -1", x.size(-1), -1);
        due.is("8 size: place 12", x.size(12), -1);
    }

    private static void in() {
        WordBench x = new WordBench();
        x.make(0, 0, 3, 2);
        due.is("9 in: no word", x.in(0, 0), 0);
        x.add(0, 4);
        due.is("9 in: LISTED", x.in(0, 4), 1);
        due.is("9 in: twice that is not LISTED", x.in(0, 8), 0);
        x.make(1, 1, 3, 2);
        due.is("9 in: zeros of a LINE without ROWS", x.in(1, 0), 1);
        x.add(1, 4);
        due.is("9 in: twice a ROW", x.in(1, 8), 1);
        due.is("9 in: not of the LINE", x.in(1, 5), 0);
        due.is("9 in: no word", x.in(1, 9), -1);
        due.is("9 in: below 0", x.in(1, -1), -1);
        due.is("9 in: empty", x.in(2, -1), -11);
        due.is("9 in: place -1", x.in(-1, 0), -1);
        due.is("9 in: place 12", x.in(12, 0), -1);
        x.ring(2, 4, 12, 5);
        due.is("9 in: of more than 4096 words", x.in(2, 5), 1);
        due.is("9 in: of more than 4096 words, not", x.in(2, 1), 0);
        x.make(3, 1, 4, 2);
        x.add(3, 6);
        due.is("9 in: 2 times 1 2 is 2 3", x.in(3, 11), 1);
        due.is("9 in: 3 times 1 2 is 3 1", x.in(3, 13), 1);
        due.is("9 in: 2 1", x.in(3, 9), 0);
    }
}
