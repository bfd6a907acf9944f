/** Promises 13 to 16: form, head, dual, checks. */
public final class FormsTest {
    private static final Due due = new Due("FormsTest");

    public static void main(String[] args) {
        form();
        formOfKinds();
        head();
        dual();
        dualOfEdges();
        checks();
        due.end();
    }

    private static void form() {
        WordBench x = Due.with(1, 5, 3, 11, 60, 0, 71);
        due.is("13 form: 0 2 1, 2 2 0, zeros and their sum", x.form(0), 2);
        due.is("13 form: ROWS", x.look(0, 3), 2);
        due.is("13 form: 1 0 2", x.word(0, 0), 27);
        due.is("13 form: 0 1 3", x.word(0, 1), 8);
        due.is("13 form again", x.form(0), 2);
        due.is("13 form again: the same", x.word(0, 0), 27);
        x = Due.with(1, 4, 2, 11);
        due.is("13 form of 4", x.form(0), 1);
        due.is("13 form: 2 3 divided by 2 is 1 2, as 2 times 2 is 3", x.word(0, 0), 6);
        x = Due.with(1, 2, 3);
        due.is("13 form: of no ROW", x.form(0), 0);
        x = Due.with(1, 2, 3, 0, 0);
        due.is("13 form: of zeros", x.form(0), 0);
        due.is("13 form: of zeros, ROWS", x.look(0, 3), 0);
        due.is("13 form: place -1", x.form(-1), -1);
        due.is("13 form: place 12", x.form(12), -1);
        due.is("13 form: empty", x.form(1), -11);
        x.make(1, 0, 2, 3);
        due.is("13 form: LISTED", x.form(1), -12);
    }

    private static void formOfKinds() {
        WordBench x = new WordBench();
        x.ring(0, 2, 4, 3);
        due.is("13 form: RING", x.form(0), 3);
        due.is("13 form: RING becomes a LINE", x.look(0, 0), 1);
        due.is("13 form: 1 0 0 1", x.word(0, 0), 9);
        due.is("13 form: 0 0 1 1", x.word(0, 2), 3);
        due.is("13 form: a ROW may come then", x.add(0, 1), 4);
        x = Due.with(3, 2, 4, 15, 12, 3);
        due.is("13 form: OWN", x.form(0), 2);
        due.is("13 form: OWN stays", x.look(0, 0), 3);
        due.is("13 form: OWN still refuses", x.add(0, 1), -3);
    }

    private static void head() {
        WordBench x = Due.with(1, 3, 4, 5, 2);
        due.is("14 head 0", x.head(0, 0), 2);
        due.is("14 head 1", x.head(0, 1), 3);
        due.is("14 head 2", x.head(0, 2), -2);
        due.is("14 head: the greatest", x.head(0, Integer.MAX_VALUE), -2);
        due.is("14 head -1", x.head(0, -1), -1);
        due.is("14 head: the ROWS stay", x.word(0, 0), 5);
        due.is("14 head: place -1", x.head(-1, 0), -1);
        due.is("14 head: place 12", x.head(12, 0), -1);
        due.is("14 head: empty", x.head(1, 0), -11);
        due.is("14 head: -1 ahead of empty", x.head(1, -1), -1);
        x.make(1, 0, 2, 3);
        due.is("14 head: LISTED", x.head(1, 0), -12);
        x.add(0, 27);
        due.is("14 head: of a ROW that came", x.head(0, 0), 0);
        x.ring(2, 5, 12, 1);
        due.is("14 head 11", x.head(2, 11), 11);
    }

    private static void dual() {
        WordBench x = Due.with(1, 3, 4, 33, 13);
        due.is("15 dual: of 1 0 2 0 and 0 1 1 1", x.dual(0, 1), 2);
        due.is("15 dual: KIND", x.look(1, 0), 1);
        due.is("15 dual: 1 2 1 0", x.word(1, 0), 48);
        due.is("15 dual: 0 2 0 1", x.word(1, 1), 19);
        due.is("15 dual of the DUAL", x.dual(1, 2), 2);
        due.is("15 dual of the DUAL is the LINE", x.same(0, 2), 1);
        x = Due.with(1, 4, 2, 6);
        due.is("15 dual of 4: of 1 2", x.dual(0, 1), 1);
        due.is("15 dual of 4: 2 1", x.word(1, 0), 9);
        x = Due.with(1, 5, 2, 7);
        x.dual(0, 0);
        due.is("15 dual onto itself: of 1 2 it is 3 1", x.word(0, 0), 16);
    }

    private static void dualOfEdges() {
        WordBench x = Due.with(1, 2, 3);
        due.is("15 dual: of no ROW", x.dual(0, 1), 3);
        due.is("15 dual: of no ROW, the first", x.word(1, 0), 4);
        due.is("15 dual: of no ROW, the last", x.word(1, 2), 1);
        due.is("15 dual: of all", x.dual(1, 2), 0);
        due.is("15 dual: of all, words", x.size(2), 1);
        due.is("15 dual: place -1", x.dual(-1, 0), -1);
        due.is("15 dual: place 12", x.dual(12, 0), -1);
        due.is("15 dual: to -1, ahead of empty", x.dual(5, -1), -1);
        due.is("15 dual: to 12", x.dual(0, 12), -1);
        due.is("15 dual: empty", x.dual(5, 0), -11);
        x.make(5, 0, 2, 3);
        due.is("15 dual: LISTED", x.dual(5, 0), -12);
        due.is("15 dual: what is refused changes nothing", x.look(0, 2), 3);
        x = Due.with(3, 2, 4, 12);
        due.is("15 dual: of OWN", x.dual(0, 0), 3);
        due.is("15 dual: of OWN is a LINE", x.look(0, 0), 1);
        due.is("15 dual: of OWN has it", x.in(0, 12), 1);
    }

    private static void checks() {
        WordBench x = Due.with(1, 3, 4, 33, 13);
        due.is("16 checks: a word of the LINE", x.checks(0, 33), 0);
        due.is("16 checks: 1 0 0 0 by 1 2 1 0 and 0 2 0 1", x.checks(0, 27), 3);
        due.is("16 checks: 0 1 0 0", x.checks(0, 9), 8);
        due.is("16 checks: 0 0 0 2", x.checks(0, 2), 2);
        due.is("16 checks: the ROWS stay", x.look(0, 3), 2);
        due.is("16 checks: 81", x.checks(0, 81), -1);
        due.is("16 checks: -1", x.checks(0, -1), -1);
        due.is("16 checks: place -1", x.checks(-1, 0), -1);
        due.is("16 checks: place 12", x.checks(12, 0), -1);
        due.is("16 checks: empty, no word either", x.checks(1, -1), -11);
        x.make(1, 0, 2, 3);
        due.is("16 checks: LISTED", x.checks(1, 0), -12);
        due.is("16 checks: no word ahead of LISTED", x.checks(1, 8), -1);
        x.make(2, 1, 5, 12);
        due.is("16 checks: of no ROW the word", x.checks(2, 244140623), 244140623);
        x.ring(2, 5, 12, 1);
        due.is("16 checks: of all 0", x.checks(2, 244140623), 0);
    }
}
