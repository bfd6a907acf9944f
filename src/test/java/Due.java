/** Compares answers with those that are due, tells each that differs, and ends the test with exit code 1 for them. */
final class Due {
    private final String test;
    private int asked;
    private int wrong;

    Due(String test) {
        this.test = test;
    }

    /** A bench with a code at place 0 that has those words or rows. */
    static WordBench with(int kind, int q, int n, long... words) {
        WordBench x = new WordBench();
        x.make(0, kind, q, n);
        for (long w : words) {
            x.add(0, w);
        }
        return x;
    }

    void is(String call, long got, long want) {
        asked++;
        if (got != want) {
            wrong++;
            System.out.println(test + ": " + call + " answered " + got + ", due is " + want);
        }
    }

    void same(String call, String got, String want) {
        asked++;
        if (!got.equals(want)) {
            wrong++;
            System.out.println(test + ": " + call + " answered " + got + ", due is " + want);
        }
    }

    /** The call must throw exactly that class. */
    void fails(String call, Class<? extends RuntimeException> want, Runnable run) {
        asked++;
        Class<?> got = null;
        try {
            run.run();
        } catch (RuntimeException thrown) {
            got = thrown.getClass();
        }
        if (got != want) {
            wrong++;
            System.out.println(test + ": " + call + " threw " + got + ", due is " + want);
        }
    }

    void end() {
        System.out.println(test + ": " + asked + " asked, " + wrong + " wrong");
        if (wrong > 0) {
            System.exit(1);
        }
    }
}
