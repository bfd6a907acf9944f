/** Promises 22 to 26: read, near, cover, hole, whole. */
public final class ReadingTest {
    private static final Due due = new Due("ReadingTest");

    public static void main(String[] args) {
        readListed();
        readLine();
        lost();
        near();
        cover();
        whole();
        refusals();
        spent();
        due.end();
    }

    private static void readListed() {
        WordBench x = Due.with(0, 2, 4, 15, 0, 12);
        due.is("22 read: itself", x.read(0, 12, 0), 12);
        due.is("22 read: the nearest", x.read(0, 7, 0), 15);
        due.is("22 read: of several the first as they came", x.read(0, 3, 0), 15);
        due.is("22 read: of several the first as they came", x.read(0, 8, 0), 0);
        due.is("22 read: of no word", Due.with(0, 2, 4).read(0, 3, 0), -2);
    }

    private static void readLine() {
        WordBench x = Due.with(1, 3, 4, 32, 13);
        due.is("22 read: itself", x.read(0, 32, 0), 32);
        due.is("22 read: one fault", x.read(0, 31, 0), 32);
        due.is("22 read: one fault", x.read(0, 33, 0), 42);
        due.is("22 read: of no ROW", Due.with(1, 3, 4).read(0, 80, 0), 0);
        x = Due.with(1, 2, 4, 15, 12);
        due.is("22 read: of several the least number", x.read(0, 10, 0), 0);
        due.is("22 read: of several the least number", x.read(0, 14, 0), 12);
        x = Due.with(1, 4, 3, 63);
        due.is("22 read: 1 2 3 as near to all: 0 0 0 is farther", x.read(0, 27, 0), 21);
        due.is("22 read: 0 2 3", x.read(0, 11, 0), 0);
    }

    private static void lost() {
        WordBench x = Due.with(1, 3, 4, 32, 13);
        due.is("22 read: place 0 is bit 0", x.read(0, 5, 1), 32);
        due.is("22 read: places 0 and 3", x.read(0, 3, 9), 32);
        due.is("22 read: all lost", x.read(0, 80, 15), 0);
        due.is("22 read: a place that it doesn't have", x.read(0, 0, 16), -1);
        due.is("22 read: lost below 0", x.read(0, 0, -1), -1);
        x = Due.with(0, 2, 3, 6, 5, 3);
        due.is("22 read: the last place lost", x.read(0, 7, 4), 6);
        due.is("22 read: the first place lost", x.read(0, 1, 1), 5);
    }

    private static void near() {
        WordBench x = Due.with(0, 2, 3, 6, 5, 3);
        due.is("23 near: 0", x.near(0, 7, 0), 0);
        due.is("23 near: 1", x.near(0, 7, 1), 3);
        due.is("23 near: itself", x.near(0, 5, 0), 1);
        due.is("23 near: n", x.near(0, 0, 3), 3);
        due.is("23 near: of no word", Due.with(0, 2, 3).near(0, 0, 3), 0);
        x = Due.with(1, 5, 4, 156);
        due.is("23 near: of all times 1 1 1 1", x.near(0, 0, 3), 1);
        due.is("23 near: of all times 1 1 1 1", x.near(0, 0, 4), 5);
        due.is("23 near: 0 0 1 1", x.near(0, 6, 2), 2);
        due.is("23 near: d -1", x.near(0, 6, -1), -1);
        due.is("23 near: d 5", x.near(0, 6, 5), -1);
    }

    private static void cover() {
        WordBench x = Due.with(0, 2, 3, 0);
        due.is("24 cover: one word", x.cover(0), 3);
        due.is("25 hole: one word", x.hole(0), 7);
        x.add(0, 7);
        due.is("24 cover: two words", x.cover(0), 1);
        due.is("25 hole: the first", x.hole(0), 1);
        due.is("24 cover: zeros alone are far", Due.with(0, 2, 1, 1).cover(0), 1);
        due.is("25 hole: zeros alone are far", Due.with(0, 2, 1, 1).hole(0), 0);
        x.ring(1, 2, 10, 1);
        due.is("24 cover: all 1024", x.cover(1), 0);
        due.is("25 hole: all 1024", x.hole(1), 0);
        x.make(1, 1, 4, 5);
        due.is("24 cover: zeros", x.cover(1), 5);
        due.is("25 hole: zeros", x.hole(1), 341);
        x.make(1, 0, 5, 4);
        due.is("24 cover: no word", x.cover(1), -2);
        due.is("25 hole: no word", x.hole(1), -2);
        x.add(1, 624);
        due.is("25 hole: of 4 4 4 4", x.hole(1), 0);
        x = Due.with(1, 3, 3, 13);
        due.is("24 cover: times 1 1 1", x.cover(0), 2);
        due.is("25 hole: 0 1 2", x.hole(0), 5);
    }

    private static void whole() {
        due.is("26 whole: of 2, 7 places", ring(2, 7, 11).whole(0), 1);
        due.is("26 whole: 1 1 1", Due.with(1, 2, 3, 7).whole(0), 1);
        due.is("26 whole: 1 1 1 1 leaves some out", Due.with(1, 2, 4, 15).whole(0), 0);
        due.is("26 whole: of 3, 4 places", Due.with(1, 3, 4, 32, 13).whole(0), 1);
        due.is("26 whole: all", ring(5, 2, 1).whole(0), 1);
        due.is("26 whole: LEAST 2", Due.with(1, 2, 2, 3).whole(0), 0);
        due.is("26 whole: LISTED", Due.with(0, 2, 3, 2, 5).whole(0), 1);
        due.is("26 whole: one word", Due.with(0, 2, 1, 0).whole(0), 0);
        due.is("26 whole: no word", Due.with(0, 2, 3).whole(0), 0);
        due.is("26 whole: no ROW", Due.with(1, 2, 3).whole(0), 0);
        // 1 0 0 1 1, 0 1 0 1 2 and 0 0 1 1 3 of 4 letters: LEAST 3, and 64 balls of 16.
        due.is("26 whole: of 4, 5 places", Due.with(1, 4, 5, 261, 70, 23).whole(0), 1);
    }

    private static WordBench ring(int q, int n, long polynomial) {
        WordBench x = new WordBench();
        x.ring(0, q, n, polynomial);
        return x;
    }

    private static void refusals() {
        WordBench x = Due.with(1, 2, 3, 5);
        for (int place : new int[] {-1, 12, Integer.MIN_VALUE, Integer.MAX_VALUE}) {
            due.is("22 read: no place", x.read(place, 0, 0), -1);
            due.is("23 near: no place", x.near(place, 0, 0), -1);
            due.is("24 cover: no place", x.cover(place), -1);
            due.is("25 hole: no place", x.hole(place), -1);
            due.is("26 whole: no place", x.whole(place), -1);
        }
        due.is("22 read: empty", x.read(1, 99, 99), -11);
        due.is("23 near: empty", x.near(1, 99, 99), -11);
        due.is("24 cover: empty", x.cover(1), -11);
        due.is("25 hole: empty", x.hole(1), -11);
        due.is("26 whole: empty", x.whole(1), -11);
        due.is("22 read: 8", x.read(0, 8, 0), -1);
        due.is("22 read: below 0", x.read(0, -1, 0), -1);
        due.is("23 near: 8", x.near(0, 8, 0), -1);
        due.is("23 near: below 0", x.near(0, -1, 0), -1);
        x.make(1, 0, 2, 3);
        due.is("22 read: no such word ahead of none there", x.read(1, 8, 0), -1);
    }

    private static void spent() {
        WordBench x = new WordBench();
        x.ring(0, 2, 12, 1);
        due.is("22 read: of 4096", x.read(0, 4095, 0), 4095);
        due.is("23 near: of 4096", x.near(0, 4095, 2), 79);
        due.is("24 cover: of 4096", x.cover(0), -5);
        x.ring(0, 5, 6, 1);
        due.is("22 read: SPENT", x.read(0, 0, 0), -5);
        due.is("22 read: no word ahead of SPENT", x.read(0, 15625, 0), -1);
        due.is("23 near: SPENT", x.near(0, 0, 0), -5);
        due.is("24 cover: SPENT", x.cover(0), -5);
        due.is("25 hole: SPENT", x.hole(0), -5);
        due.is("26 whole: SPENT", x.whole(0), -5);
        x.make(0, 0, 2, 11);
        due.is("24 cover: above 1024 ahead of no word", x.cover(0), -5);
        due.is("25 hole: above 1024 ahead of no word", x.hole(0), -5);
        due.is("26 whole: above 1024 ahead of LEAST 0", x.whole(0), -5);
        x.add(0, 3);
        due.is("22 read: LISTED is never SPENT", x.read(0, 2047, 0), 3);
    }
}
