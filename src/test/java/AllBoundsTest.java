/** Promises 20 to 23, a test for each sentence that names a boundary: what is told of all. */
public final class AllBoundsTest {
    private static final int OUTSIDE = -102, STATE = -103, FULL = -104;
    private static final String USED = "bring 0 9; bring 2 7; tread 1 2; day; bring 0 6; bring 1 3; tread 2 1; "
            + "found 0 9 7; found 1 9 7; sun 3";
    private static final Check CHECK = new Check("AllBoundsTest");

    private static void due(String call, long got, long want) {
        CHECK.due(call, got, want);
    }

    private static SnowTerm usedCity() {
        SnowTerm x = Check.cityOf("s4,g9,y3;1");
        Calls.run(x, USED);
        return x;
    }

    // "An IMAGE keeps the DAY, the SUN, SNOW, FEET, what was brought since the last DAY, what all cost,
    // PRAISE, what is FOUND." Each is changed by itself and comes back.
    private static void anImageKeepsEach() {
        for (String change : new String[] {"", "day", "sun 9", "bring 0 1", "bring 2 9", "tread 0 9", "tread 2 0",
            "found 2 5 5", "forget", "forget; found 0 9 0; found 0 9 0", "day; day; day",
            "day; bring 0 9; bring 1 9; tread 0 1; sun 0; found 2 1 1; day",
            // Another kind, other feet, another depth, and another rest in the first one's place.
            "forget; tread 2 0; found 2 9 7", "forget; tread 0 1; found 0 9 7", "forget; found 0 8 7",
            "forget; found 0 9 6"}) {
            SnowTerm x = usedCity();
            due("20: one sun can have left what is found", x.suns(), 4);
            due("20: image()", x.image(), 1);
            Calls.run(x, change);
            due("21: restore() after " + change, x.restore(), 1);
            Calls.alike(CHECK, "an image and " + change, x, usedCity(), "digest; about 0 2; about 0 6; about 2 3; "
                    + "count 1; count 2; count 5; count 6; suns; look; error 0; error 1; winters 5 5 0; day; digest; "
                    + "bring 0 9; error 0; digest; forget; digest");
        }
    }

    // "An IMAGE is kept (one; the latest): which DAY it is."
    private static void theLatestImageIsKept() {
        SnowTerm x = Check.cityOf("s4,s4;0");
        for (int day = 0; day <= 5; day++) {
            due("20: image() on day " + day, x.image(), day);
            x.bring(0, 1);
            due("20: image() once more on day " + day, x.image(), day);
            x.day();
        }
        due("21: restore()", x.restore(), 5);
        due("21: the latest of that day", x.about(0, 6), 1);
        due("21: with its snow", x.about(0, 2), 6);
    }

    // The image stays as it was, whatever comes behind it or is done with it.
    private static void anImageStays() {
        SnowTerm x = usedCity();
        x.image();
        long then = x.digest();
        for (int i = 0; i < 4; i++) {
            Calls.run(x, "bring 0 9; bring 1 1; tread 1 9; sun 8; found 0 1 1; day; tread 0 3; day");
            due("21: restore(), time " + i, x.restore(), 1);
            due("21: all is as it was, time " + i, x.digest(), then);
        }
        due("20: image() of what was restored", x.image(), 1);
        x.day();
        due("21: restore()", x.restore(), 1);
        due("21: all is as it was", x.digest(), then);
    }

    // What is full is full again.
    private static void anImageOfWhatIsFull() {
        SnowTerm x = Check.cityOf("s9,s9;1");
        Check.bringAll(x, 1, 99);
        for (int i = 0; i < 6; i++) {
            x.found(0, 9, 0);
        }
        x.image();
        x.day();
        x.forget();
        due("20: 99 is not reached now", x.bring(1, 9), 30);
        due("20: nor 6", x.found(1, 1, 0), 1);
        x.restore();
        due("21: the 100th", x.bring(1, 1), FULL);
        due("21: the seventh", x.found(0, 9, 0), FULL);
        due("21: what was found", x.suns(), 512);
        due("21: what was brought", x.about(1, 6), 99);
    }

    // THE PAGE and how often a CITY was read are in no image.
    private static void anImageIsOfNoPage() {
        SnowTerm x = Check.cityOf("s9,s9;1");
        Check.write(x, "s1,");
        x.image();
        Check.write(x, "s1;1");
        x.restore();
        due("21: the page stays", x.count(8), 7);
        due("21: cities read", x.count(9), 1);
        due("21: it is a city", x.city(), 2);
        due("21: cities read", x.count(9), 2);
    }

    // "STATE: none was kept, or there is another CITY since."
    private static void restoreNeedsAnImageOfThisCity() {
        SnowTerm x = new SnowTerm();
        due("20: image(), no city", x.image(), STATE);
        due("21: restore(), no city", x.restore(), STATE);
        Check.write(x, "s9,s9;1");
        x.city();
        due("21: restore(), the refused image was none", x.restore(), STATE);
        due("20: image()", x.image(), 0);
        due("5: city(), refused", x.city(), STATE);
        due("21: restore(), it is the same city", x.restore(), 0);
        Check.write(x, "s9,s9;1");
        due("21: restore(), with another city on the page", x.restore(), 0);
        x.bring(0, 4);
        x.city();
        due("21: restore(), another city of the same text", x.restore(), STATE);
        due("21: nothing comes back", x.about(0, 2), 0);
        due("20: image() of the new one", x.image(), 0);
        x.day();
        due("21: restore() of the new one", x.restore(), 0);
    }

    // "How many: 0 SITES ... 9 how often a CITY was read. OUTSIDE.", at their least
    private static void countsAtTheirLeast() {
        SnowTerm x = new SnowTerm();
        for (int what = -3; what <= 13; what++) {
            due("22: count(" + what + "), a new object", x.count(what), what >= 0 && what <= 9 ? 0 : OUTSIDE);
        }
        x = Check.cityOf("s1,s1;0");
        int[] counts = {2, 0, 0, 0, 0, 0, 0, 0, 0, 1};
        for (int what = -3; what <= 13; what++) {
            boolean taken = what >= 0 && what <= 9;
            due("22: count(" + what + "), a new city", x.count(what), taken ? counts[what] : OUTSIDE);
        }
    }

    // and at their most, as far as an object goes
    private static void countsAtTheirMost() {
        SnowTerm x = Check.cityOf("b9,b9,b9,b9,b9,b9;0");
        for (int site = 0; site < 6; site++) {
            Check.bringAll(x, site, 99);
        }
        for (int i = 0; i < 6; i++) {
            x.found(5, 30, 30);
        }
        for (int i = 0; i < 300; i++) {
            x.day();
        }
        Check.write(x, "a page of 21 letters!");
        x.sun(9);
        int[] counts = {6, 9, 300, 180, 6, 1800, 99 * 21, 6, 21, 1};
        for (int what = 0; what <= 9; what++) {
            due("22: count(" + what + ")", x.count(what), counts[what]);
        }
        due("22: count(10)", x.count(10), OUTSIDE);
    }

    // "letters of THE PAGE": the empty and the full page
    private static void digestsOfPages() {
        SnowTerm x = new SnowTerm();
        long h = 1061;
        for (int letters = 0; letters <= 21; letters++) {
            long all = h;
            for (int what = 0; what <= 9; what++) {
                all = 31 * all + (what == 8 ? letters : 0);
            }
            due("23: digest() with " + letters + " letters", x.digest(), all);
            x.letter(32 + 4 * letters);
            h = 31 * h + 32 + 4 * letters;
        }
        due("23: the 22nd letter is refused", x.count(8), 21);
    }

    // "with a CITY": what a city adds at its least, NONE and refusals as the numbers that they are
    private static void digestsOfCities() {
        due("23: two sites that cannot be kept for five days", Check.cityOf("s9,b1;9").digest(), Check.digestOf(
                0, 9, 0, 0, 9, 0, 0, 9, 18, -1,
                3, 1, 0, 0, 9, 0, 0, 1, 10, -1,
                1, 2, 19, 38, -1, -1, 1023, 0,
                2, 9, 0, 0, 0, 0, 0, 0, 0, 1));
        SnowTerm x = Check.cityOf("s9,b1;9");
        x.found(0, 0, 1);
        due("23: no sun there can have been", x.digest(), Check.digestOf(
                0, 9, 0, 0, 9, 0, 0, 9, 18, -1,
                3, 1, 0, 0, 9, 0, 0, 1, 10, -1,
                1, 2, 19, 38, -1, -1, 0, -1,
                2, 9, 0, 0, 0, 0, 0, 1, 0, 1));
    }

    // "NEED for 0, 1 and 5 DAYS": 20 loads of a plan, and a need, that one more or one less would change
    private static void digestsGoByTheirNumbers() {
        due("23: needs of each day, a plan of just 20", Check.cityOf("s8,s8;1").digest(), Check.digestOf(
                0, 8, 0, 0, 1, 0, 0, 8, 9, 13,
                0, 8, 0, 0, 1, 0, 0, 8, 9, 13,
                2, 3, 20, 30, -1, -1, 1023, 0,
                2, 1, 0, 0, 0, 0, 0, 0, 0, 1));
        due("23: one that would be of 21", Check.cityOf("s8,s9;1").digest(), Check.digestOf(
                0, 8, 0, 0, 1, 0, 0, 8, 9, 13,
                0, 9, 0, 0, 1, 0, 0, 9, 10, 14,
                1, 1, 10, 10, -1, -1, 1023, 0,
                2, 1, 0, 0, 0, 0, 0, 0, 0, 1));
        SnowTerm x = Check.cityOf("t9,s1,s9;0");
        x.bring(0, 1);
        x.bring(2, 9);
        x.day();
        x.bring(0, 1);
        due("23: which error, then how many", x.digest(), Check.digestOf(
                4, 9, 2, 0, 0, 0, 1, 7, 7, 7,
                0, 1, 0, 0, 0, 0, 0, 1, 1, 1,
                0, 9, 9, 0, 0, 1, 0, 0, 0, 0,
                3, 7, 8, 9, 1, 2, 1023, 1,
                3, 0, 1, 11, 1, 1, 29, 0, 0, 1));
    }

    // "An object is used for at most 512 calls": the last of them answers as the others do
    private static void theLastOf512Calls() {
        SnowTerm x = Check.cityOf("s1,t1;0");
        x.bring(0, 1);
        for (int call = 10; call <= 512; call++) {
            due("11: day(), call " + call, x.day(), 1);
        }
        SnowTerm y = Check.cityOf("s1,t1;0");
        for (int call = 9; call <= 511; call++) {
            y.tread(1, call % 10);
        }
        due("23: digest(), call 512", y.digest(), Check.digestOf(
                0, 1, 0, 0, 0, 0, 0, 1, 1, 1,
                4, 1, 0, 1, 0, 0, 0, 1, 1, 1,
                2, 3, 2, 3, -1, -1, 1023, 0,
                2, 0, 0, 0, 0, 0, 0, 0, 0, 1));
    }

    public static void main(String[] args) {
        anImageKeepsEach();
        theLatestImageIsKept();
        anImageStays();
        anImageOfWhatIsFull();
        anImageIsOfNoPage();
        restoreNeedsAnImageOfThisCity();
        countsAtTheirLeast();
        countsAtTheirMost();
        digestsOfPages();
        digestsOfCities();
        digestsGoByTheirNumbers();
        theLastOf512Calls();
        CHECK.end();
    }
}
