/** Promises 10 to 12: sum, way, product. */
public final class WordsTest {
    private static final Due due = new Due("WordsTest");

    public static void main(String[] args) {
        sum();
        way();
        product();
        fields();
        refusals();
        due.end();
    }

    private static void sum() {
        WordBench x = new WordBench();
        due.is("10 sum of 2", x.sum(2, 4, 12, 10, 1), 6);
        due.is("10 sum, 0 times", x.sum(2, 4, 12, 10, 0), 12);
        due.is("10 sum of 3: 1 2 and twice 2 2", x.sum(3, 2, 5, 8, 2), 6);
        due.is("10 sum of 4: 1 2 and 2 times 2 3", x.sum(4, 2, 6, 11, 2), 11);
        due.is("10 sum of 5: 4 3 and 4 times 4 1", x.sum(5, 2, 23, 21, 4), 2);
        due.is("10 sum of 12 letters", x.sum(5, 12, 244140624, 244140624, 4), 0);
    }

    private static void way() {
        WordBench x = new WordBench();
        due.is("11 way of one word", x.way(4, 3, 27, 27), 0);
        due.is("11 way: 0 1 2 and 2 1 0", x.way(3, 3, 5, 21), 2);
        due.is("11 way of 12", x.way(5, 12, 0, 244140624), 12);
        due.is("11 way of letters 1 and 2, 2 and 3, 1 and 3", x.way(4, 3, 25, 47), 3);
    }

    private static void product() {
        WordBench x = new WordBench();
        due.is("12 product of 2", x.product(2, 4, 13, 7), 0);
        due.is("12 product of 2", x.product(2, 4, 13, 5), 0);
        due.is("12 product of 2", x.product(2, 4, 13, 1), 1);
        due.is("12 product of 3: 1 2 by 2 2", x.product(3, 2, 5, 8), 0);
        due.is("12 product of 4: 2 3 by 2 1", x.product(4, 2, 11, 9), 0);
        due.is("12 product of 4: 2 3 by 2 2", x.product(4, 2, 11, 10), 2);
        due.is("12 product of 5: twelve times 4 by 4", x.product(5, 12, 244140624, 244140624), 2);
    }

    /** The tables of letters as the document has them. */
    private static void fields() {
        int[] timesFour = {0, 0, 0, 0, 0, 1, 2, 3, 0, 2, 3, 1, 0, 3, 1, 2};
        WordBench x = new WordBench();
        for (int q = 2; q <= 5; q++) {
            for (int a = 0; a < q; a++) {
                for (int b = 0; b < q; b++) {
                    int times = q == 4 ? timesFour[4 * a + b] : a * b % q;
                    due.is("12 letters of " + q, x.product(q, 1, a, b), times);
                    due.is("10 letters of " + q, x.sum(q, 1, 0, a, b), times);
                    due.is("10 letters of " + q, x.sum(q, 1, a, b, 1), q == 4 ? a ^ b : (a + b) % q);
                    due.is("11 letters of " + q, x.way(q, 1, a, b), a == b ? 0 : 1);
                }
            }
        }
    }

    private static void refusals() {
        WordBench x = new WordBench();
        int[][] fields = {{1, 2}, {6, 2}, {0, 2}, {-1, 2}, {2, 0}, {2, 13}, {2, -1}, {Integer.MAX_VALUE, 2}};
        for (int[] f : fields) {
            due.is("10 sum: q, n", x.sum(f[0], f[1], 0, 0, 0), -1);
            due.is("11 way: q, n", x.way(f[0], f[1], 0, 0), -1);
            due.is("12 product: q, n", x.product(f[0], f[1], 0, 0), -1);
        }
        long[] none = {-1, 9, Long.MAX_VALUE, Long.MIN_VALUE};
        for (long w : none) {
            due.is("10 sum: the first", x.sum(3, 2, w, 0, 1), -1);
            due.is("10 sum: the second", x.sum(3, 2, 0, w, 0), -1);
            due.is("11 way: the first", x.way(3, 2, w, 0), -1);
            due.is("11 way: the second", x.way(3, 2, 0, w), -1);
            due.is("12 product: the first", x.product(3, 2, w, 0), -1);
            due.is("12 product: the second", x.product(3, 2, 0, w), -1);
        }
        due.is("10 sum: c -1", x.sum(3, 2, 0, 0, -1), -1);
        due.is("10 sum: c 3", x.sum(3, 2, 0, 0, 3), -1);
        due.is("10 sum: c 2", x.sum(3, 2, 0, 8, 2), 4);
    }
}
