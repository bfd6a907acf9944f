/** Promises 17 to 21: least, weights, law, beat, bound. */
public final class WeightsTest {
    private static final Class<IllegalArgumentException> ARGUMENT = IllegalArgumentException.class;
    private static final Class<IllegalStateException> STATE = IllegalStateException.class;

    private static final Due due = new Due("WeightsTest");

    public static void main(String[] args) {
        least();
        weights();
        weightsOfListed();
        law();
        lawOfDuals();
        beat();
        bound();
        refusals();
        spent();
        due.end();
    }

    private static void least() {
        due.is("17 least: no word", Due.with(0, 2, 3).least(0), 0);
        due.is("17 least: one word", Due.with(0, 2, 3, 7).least(0), 0);
        due.is("17 least: two words", Due.with(0, 2, 3, 7, 1).least(0), 2);
        due.is("17 least: three words", Due.with(0, 5, 4, 0, 624, 620).least(0), 1);
        due.is("17 least: no ROW", Due.with(1, 2, 3).least(0), 0);
        due.is("17 least: zeros", Due.with(1, 2, 3, 0).least(0), 0);
        due.is("17 least: a LINE", Due.with(1, 3, 4, 32, 13).least(0), 3);
        due.is("17 least: OWN", Due.with(3, 2, 4, 15).least(0), 4);
        WordBench x = new WordBench();
        x.ring(0, 3, 11, 2 + 9 + 2 * 27 + 81 + 243);
        due.is("17 least: of Golay's RING of 3", x.least(0), 5);
    }

    private static void weights() {
        WordBench x = new WordBench();
        x.ring(0, 3, 11, 2 + 9 + 2 * 27 + 81 + 243);
        long[] golay = {1, 0, 0, 0, 0, 132, 132, 0, 330, 110, 0, 24};
        for (int w = 0; w <= 11; w++) {
            due.is("18 weights: of Golay's RING, " + w, x.weights(0, w), golay[w]);
        }
        x = Due.with(1, 5, 2, 7, 14);
        due.is("18 weights: no word twice", x.weights(0, 2), 4);
        due.is("18 weights: zeros", x.weights(0, 0), 1);
        x.make(1, 1, 2, 12);
        due.is("18 weights: of no ROW", x.weights(1, 0), 1);
        due.is("18 weights: of no ROW, 12", x.weights(1, 12), 0);
        x.ring(2, 2, 12, 1);
        due.is("18 weights: of all 4096", x.weights(2, 6), 924);
    }

    private static void weightsOfListed() {
        WordBench x = Due.with(0, 2, 2, 0, 1, 2);
        due.is("18 weights: 4 pairs by 3 words is not whole: pairs", x.weights(0, 0), 3);
        due.is("18 weights: pairs", x.weights(0, 1), 4);
        due.is("18 weights: pairs", x.weights(0, 2), 2);
        x.add(0, 3);
        due.is("18 weights: whole", x.weights(0, 0), 1);
        due.is("18 weights: whole", x.weights(0, 1), 2);
        due.is("18 weights: whole", x.weights(0, 2), 1);
        x = Due.with(0, 2, 2);
        due.is("18 weights: no word", x.weights(0, 0), 0);
        x = Due.with(0, 5, 2, 24);
        due.is("18 weights: one word", x.weights(0, 0), 1);
        due.is("18 weights: one word, its weight", x.weights(0, 2), 0);
    }

    private static void law() {
        WordBench x = Due.with(0, 2, 2, 0, 1, 2);
        due.is("19 law: pairs 3, 4, 2", x.law(0, 0), 9);
        due.is("19 law: pairs 3, 4, 2", x.law(0, 1), 2);
        due.is("19 law: pairs 3, 4, 2", x.law(0, 2), 1);
        x = Due.with(0, 3, 2);
        due.is("19 law: no word", x.law(0, 0), 0);
        x = Due.with(1, 5, 3, 31);
        due.is("19 law: of 1 1 1", x.law(0, 0), 5);
        due.is("19 law: of 1 1 1", x.law(0, 1), 0);
        due.is("19 law: of 1 1 1", x.law(0, 2), 60);
        due.is("19 law: of 1 1 1", x.law(0, 3), 60);
    }

    /** THE LAW of a LINE is the COUNT of its DUAL times how many words the LINE has. */
    private static void lawOfDuals() {
        long[][] polynomials = {{2, 7, 11}, {2, 12, 21}, {3, 5, 4}, {4, 5, 29}, {5, 4, 8}, {5, 5, 5}};
        for (long[] p : polynomials) {
            WordBench x = new WordBench();
            x.ring(0, (int) p[0], (int) p[1], p[2]);
            x.dual(0, 1);
            for (int w = 0; w <= p[1]; w++) {
                due.is("19 law: DUAL", x.law(0, w), x.weights(1, w) * x.size(0));
            }
        }
    }

    private static void beat() {
        due.is("20 beat: no word", Due.with(0, 2, 3).beat(0), 0);
        due.is("20 beat: one word", Due.with(0, 2, 3, 7).beat(0), 0);
        due.is("20 beat: two words", Due.with(0, 2, 3, 7, 1).beat(0), 2);
        due.is("20 beat: 2 and 3", Due.with(0, 2, 4, 0, 3, 7).beat(0), 1);
        due.is("20 beat: 1 and 2", Due.with(0, 2, 2, 0, 1, 3).beat(0), 1);
        due.is("20 beat: no ROW", Due.with(1, 2, 3).beat(0), 0);
        due.is("20 beat: 4 and 6", Due.with(1, 2, 8, 240, 63).beat(0), 2);
        due.is("20 beat: 4 and 8", Due.with(3, 2, 8, 240, 15).beat(0), 4);
        due.is("20 beat: 3", Due.with(1, 3, 4, 32, 13).beat(0), 3);
        due.is("20 beat: 12", Due.with(1, 5, 12, 61035156).beat(0), 12);
    }

    private static void bound() {
        WordBench x = new WordBench();
        due.is("21 bound: balls", x.bound(2, 7, 3, 0), 16);
        due.is("21 bound: balls, d 4", x.bound(2, 7, 4, 0), 16);
        due.is("21 bound: balls, cut", x.bound(2, 6, 3, 0), 9);
        due.is("21 bound: balls of 3", x.bound(3, 11, 5, 0), 729);
        due.is("21 bound: balls, d 1", x.bound(5, 12, 1, 0), 244140625);
        due.is("21 bound: balls, d 2", x.bound(4, 3, 2, 0), 64);
        due.is("21 bound: places", x.bound(4, 6, 4, 1), 64);
        due.is("21 bound: places, d 1", x.bound(5, 12, 1, 1), 244140625);
        due.is("21 bound: places, d n", x.bound(3, 5, 5, 1), 3);
        due.is("21 bound: q 1", x.bound(1, 3, 1, 0), -1);
        due.is("21 bound: q 6", x.bound(6, 3, 1, 0), -1);
        due.is("21 bound: n 0", x.bound(2, 0, 0, 0), -1);
        due.is("21 bound: n 13", x.bound(2, 13, 1, 0), -1);
        due.is("21 bound: d 0", x.bound(2, 3, 0, 1), -1);
        due.is("21 bound: d 4", x.bound(2, 3, 4, 1), -1);
        due.is("21 bound: which -1", x.bound(2, 3, 1, -1), -1);
        due.is("21 bound: which 2", x.bound(2, 3, 1, 2), -1);
    }

    private static void refusals() {
        WordBench x = Due.with(1, 2, 3, 5);
        for (int place : new int[] {-1, 12, Integer.MIN_VALUE, Integer.MAX_VALUE}) {
            due.is("17 least: no place", x.least(place), -1);
            due.is("18 weights: no place", x.weights(place, 0), -1);
            due.fails("19 law: no place", ARGUMENT, () -> x.law(place, 0));
            due.is("20 beat: no place", x.beat(place), -1);
        }
        due.is("17 least: empty", x.least(1), -11);
        due.is("18 weights: empty", x.weights(1, 0), -11);
        due.is("18 weights: empty, far w", x.weights(1, 13), -11);
        due.fails("19 law: empty", STATE, () -> x.law(1, 0));
        due.is("20 beat: empty", x.beat(1), -11);
        due.is("18 weights: w -1", x.weights(0, -1), -1);
        due.is("18 weights: w 4", x.weights(0, 4), -1);
        due.fails("19 law: w -1", ARGUMENT, () -> x.law(0, -1));
        due.fails("19 law: w 4", ARGUMENT, () -> x.law(0, 4));
    }

    private static void spent() {
        WordBench x = new WordBench();
        x.ring(0, 3, 8, 1);
        due.is("17 least: SPENT", x.least(0), -5);
        due.is("18 weights: SPENT", x.weights(0, 8), -5);
        due.is("18 weights: w ahead of SPENT", x.weights(0, 9), -1);
        due.fails("19 law: SPENT", STATE, () -> x.law(0, 0));
        due.fails("19 law: w ahead of SPENT", ARGUMENT, () -> x.law(0, 9));
        due.is("20 beat: SPENT", x.beat(0), -5);
        x.ring(0, 4, 6, 1);
        due.is("17 least: 4096 are not SPENT", x.least(0), 1);
        due.is("18 weights: 4096", x.weights(0, 6), 729);
        x.ring(0, 4, 7, 1);
        due.is("17 least: 16384 are", x.least(0), -5);
    }
}
