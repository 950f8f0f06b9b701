/** Counts wrong answers, tells them, and ends the test with exit code 1 if there was one. */
final class Check {
    private final String test;
    private int wrong;
    private int asked;

    Check(String test) {
        this.test = test;
    }

    void due(String call, long got, long want) {
        asked++;
        if (got != want) {
            wrong++;
            System.out.println(test + ": " + call + " answered " + got + ", due is " + want);
        }
    }

    boolean isClean() {
        return wrong == 0;
    }

    void end() {
        System.out.println(test + ": " + asked + " answers, " + wrong + " wrong");
        if (wrong != 0) {
            System.exit(1);
        }
    }

    static void write(SnowTerm x, String text) {
        for (int i = 0; i < text.length(); i++) {
            x.letter(text.charAt(i));
        }
    }

    static SnowTerm cityOf(String text) {
        SnowTerm x = new SnowTerm();
        write(x, text);
        x.city();
        return x;
    }

    static void bringAll(SnowTerm x, int site, int loads) {
        for (int left = loads; left > 0; left -= 9) {
            x.bring(site, Math.min(9, left));
        }
    }

    static long digestOf(int... numbers) {
        long h = 1061;
        for (int number : numbers) {
            h = 31 * h + number;
        }
        return h;
    }
}
