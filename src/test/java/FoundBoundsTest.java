/** Promises 15 to 19, a test for each sentence that names a boundary: what is found, and winters. */
public final class FoundBoundsTest {
    private static final int NONE = -1, UNKNOWN = -101, OUTSIDE = -102, STATE = -103, FULL = -104;
    private static final int ALL_SUNS = 1023;
    private static final Check CHECK = new Check("FoundBoundsTest");

    private static void due(String call, long got, long want) {
        CHECK.due(call, got, want);
    }

    private static int sunsBy(String city, int feet, int deep, int left) {
        SnowTerm x = Check.cityOf(city);
        x.tread(0, feet);
        x.found(0, deep, left);
        return x.suns();
    }

    // "SNOW so DEEP (0 to 30) so much (0 to 30)"
    private static void deepAndLeftAreFrom0To30() {
        for (int n = -3; n <= 34; n++) {
            int answer = n >= 0 && n <= 30 ? 1 : OUTSIDE;
            due("15: found(0, " + n + ", 0)", Check.cityOf("s1,s1;0").found(0, n, 0), answer);
            due("15: found(1, 30, " + n + ")", Check.cityOf("s1,s1;0").found(1, 30, n), answer);
            due("15: found(2, " + n + ", 0)", Check.cityOf("s1,s1;0").found(2, n, 0), UNKNOWN);
        }
    }

    // "FOUND (6 at most)" and "FULL"
    private static void sixAreFoundAtMost() {
        SnowTerm x = Check.cityOf("s1,s1;0");
        for (int many = 1; many <= 6; many++) {
            due("15: found, the " + many, x.found(many % 2, 9, 0), many);
            due("22: count(7)", x.count(7), many);
        }
        for (int i = 0; i < 3; i++) {
            due("15: found, one more", x.found(0, 9, 1), FULL);
        }
        due("15: it is not found", x.suns(), 512);
        due("22: count(7)", x.count(7), 6);
        due("16: forget() of what is full", x.forget(), 6);
        due("16: forget() of nothing", x.forget(), 0);
        due("17: nothing is found any more", x.suns(), ALL_SUNS);
        due("15: the first again", x.found(0, 9, 1), 1);
        due("17: by it alone", x.suns(), 256);
        due("16: forget(), no city", new SnowTerm().forget(), 0);
    }

    // Each of six tells by itself: the last counts as the first does.
    private static void eachOfSixTells() {
        for (int odd = 0; odd < 6; odd++) {
            SnowTerm x = Check.cityOf("s1,s1;0");
            for (int i = 0; i < 6; i++) {
                x.found(1, i == odd ? 7 : 0, 0);
            }
            due("17: the one at " + odd + " tells 7 or stronger", x.suns(), 128 + 256 + 512);
        }
    }

    // "as bits (1 for 0, 2 for 1, 4 for 2, and so on)"
    private static void everySunHasItsBit() {
        for (int sun = 0; sun <= 9; sun++) {
            due("17: sun " + sun, sunsBy("s1,s1;0", 0, 30, 30 - sun), 1 << sun);
            due("17: sun " + sun + " by a stand, trodden", sunsBy("b1,s1;0", 9, 30, 30 - sun), 1 << sun);
            due("17: sun " + sun + ", trodden", sunsBy("s1,s1;0", 9, 30, 21 - sun), 1 << sun);
        }
        due("17: weaker than none", sunsBy("s1,s1;0", 1, 30, 30), 0);
        due("17: a sun of 10", sunsBy("s1,s1;0", 0, 30, 20), 0);
        due("17: a sun of 10, trodden", sunsBy("s1,s1;0", 9, 30, 11), 0);
    }

    // "so that all that is FOUND is so", where none is left, and where nothing melts
    private static void sunsWhereNoneIsLeft() {
        for (int deep = 0; deep <= 9; deep++) {
            int fromDeepOn = ALL_SUNS - ((1 << deep) - 1);
            due("17: none left of " + deep, sunsBy("s1,s1;0", 0, deep, 0), fromDeepOn);
        }
        due("17: none left of 10", sunsBy("s1,s1;0", 0, 10, 0), 0);
        due("17: none left of 10, trodden", sunsBy("s1,s1;0", 1, 10, 0), 512);
        due("17: none of none", sunsBy("s1,s1;0", 9, 0, 0), ALL_SUNS);
        due("17: one of none", sunsBy("s1,s1;0", 0, 0, 1), 0);
        due("17: more than there was", sunsBy("b1,s1;0", 0, 29, 30), 0);
        due("17: a yard where nothing melts", sunsBy("y1,s1;0", 0, 30, 30), 7);
        due("17: a trodden yard", sunsBy("y1,s1;0", 1, 30, 30), 3);
        due("17: a yard with 3", sunsBy("y1,s1;0", 3, 30, 30), 0);
        due("17: a grave where nothing melts", sunsBy("g1,s1;0", 0, 30, 30), 3);
        due("17: a grave at its most", sunsBy("g1,s1;0", 9, 30, 21), 512);
        due("17: a tomb where nothing melts", sunsBy("t1,s1;0", 0, 30, 30), 15);
        due("17: a tomb at its most", sunsBy("t1,s1;0", 9, 30, 22), 512);
    }

    // "as its KIND and FEET are now", when it is found; the SUN of now does not matter
    private static void foundWithTheFeetOfThen() {
        SnowTerm x = Check.cityOf("s1,s1;3");
        x.tread(0, 2);
        x.found(0, 20, 13);
        due("17: 5 and 2 feet", x.suns(), 32);
        x.tread(0, 3);
        x.sun(9);
        x.day();
        due("17: still 5", x.suns(), 32);
        x.found(0, 20, 12);
        due("17: 5 and 3 feet, too", x.suns(), 32);
        x.found(0, 20, 13);
        due("17: not with 3 feet", x.suns(), 0);
    }

    // "STATE: no CITY"
    private static void noCityNoSuns() {
        due("17: suns(), no city", new SnowTerm().suns(), STATE);
        due("18: look(), no city", new SnowTerm().look(), STATE);
        due("17: nothing found", Check.cityOf("s1,s1;9").suns(), ALL_SUNS);
    }

    // "of like ones the least; none, if there are none"
    private static void lookTellsTheLeastOfLikeOnes() {
        due("18: all alike", Check.cityOf("s1,s1,s1,b1,s1,s1;0").look(), 0);
        due("18: the last alone tells", Check.cityOf("t1,t1,t1,t1,t1,s1;0").look(), 5);
        due("18: the last but one as well", Check.cityOf("t1,t1,t1,t1,b1,s1;0").look(), 4);
        SnowTerm x = Check.cityOf("t1,g1,y1,b1;0");
        due("18: four, two, three or one", x.look(), 3);
        x = Check.cityOf("t1,y1,g1;0");
        due("18: four, three or two", x.look(), 2);
        x.tread(1, 1);
        due("18: two of the yard with a foot", x.look(), 1);
        x.tread(0, 3);
        due("18: two of the tomb with three", x.look(), 0);
        x.tread(0, 2);
        due("18: two of the tomb with two", x.look(), 0);
        x.tread(0, 1);
        due("18: three of the tomb with one", x.look(), 1);
        x.found(2, 1, 2);
        due("18: no sun there can have been", x.look(), NONE);
        x.forget();
        due("18: all again", x.look(), 1);
    }

    // "fewest of these are left at worst": only of the SUNS there can have been
    private static void lookGoesByWhatIsFound() {
        SnowTerm x = Check.cityOf("t1,y1,g1,s1;0");
        x.found(1, 20, 20);
        due("18: 0 to 2, one at worst only by s", x.look(), 3);
        x.found(3, 20, 19);
        due("18: 1 alone", x.look(), 0);
        x = Check.cityOf("t1,y1;0");
        x.found(1, 20, 20);
        due("18: 0 to 2, three at worst by both", x.look(), 0);
        x = Check.cityOf("t1,y1;0");
        x.found(0, 20, 19);
        due("18: 4 and 5, the yard tells them apart", x.look(), 1);
    }

    // The weakest and the strongest SUN count as the others do.
    private static void lookKnowsSuns0And9() {
        SnowTerm x = Check.cityOf("g1,s1;0");
        x.found(0, 20, 16);
        due("18: 8 and 9 by the grave", x.suns(), 256 + 512);
        due("18: 8 and 9 are told apart by s", x.look(), 1);
        x.forget();
        x.found(0, 20, 20);
        due("18: 0 and 1 by the grave", x.suns(), 1 + 2);
        due("18: 0 and 1 are told apart by s", x.look(), 1);
    }

    private static void wintersAre(SnowTerm x, int days, int seed, int praise, int snow, int next) {
        String when = Calls.told("winters", days, seed) + ", what ";
        due("19: " + when + 0, x.winters(days, seed, 0), praise);
        due("19: " + when + 1, x.winters(days, seed, 1), snow);
        due("19: " + when + 2, x.winters(days, seed, 2), next);
    }

    // "OUTSIDE: days (1 to 60), seed (0 at least), what; STATE: no CITY"; worked out elsewhere
    private static void wintersAtTheirBounds() {
        wintersAre(Check.cityOf("s1,s1;9"), 1, 0, 1, 1, 1406932606);
        wintersAre(Check.cityOf("s1,s1;9"), 60, 0, 11, 0, 2120877416);
        SnowTerm x = Check.cityOf("s1,s1;9");
        Check.bringAll(x, 0, 30);
        Check.bringAll(x, 1, 30);
        wintersAre(x, 1, Integer.MAX_VALUE, 2, 52, 288979989);
        x = Check.cityOf("t1,t1;0");
        Check.bringAll(x, 0, 30);
        Check.bringAll(x, 1, 30);
        wintersAre(x, 60, Integer.MAX_VALUE, 120, 58, 2141326983);
        x = Check.cityOf("t9,t8,t7,t6,t5,t4;9");
        for (int site = 0; site < 6; site++) {
            Check.bringAll(x, site, 30);
        }
        wintersAre(x, 59, 1, 354, 153, 1848832019);
        wintersAre(x, 60, 1, 360, 154, 2100427849);
        for (int days = -1; days <= 62; days++) {
            boolean taken = days >= 1 && days <= 60;
            due("19: " + days + " days are taken", x.winters(days, 7, 0) == OUTSIDE ? 0 : 1, taken ? 1 : 0);
            due("19: no city", new SnowTerm().winters(days, 7, 0), taken ? STATE : OUTSIDE);
        }
        due("19: a seed of -1", x.winters(1, -1, 2), OUTSIDE);
        due("19: a seed of -1, no city", new SnowTerm().winters(1, -1, 2), OUTSIDE);
        due("19: the least seed of all", x.winters(1, Integer.MIN_VALUE, 2), OUTSIDE);
        due("19: what 3", x.winters(1, 1, 3), OUTSIDE);
        due("19: what -1", x.winters(1, 1, -1), OUTSIDE);
    }

    // "so many DAYS from now", with the kinds and feet of now, each melting as it does
    private static void wintersGoOnFromNow() {
        SnowTerm x = Check.cityOf("s1,y2,g3,b4,t5,s6;0");
        int[] feet = {0, 1, 2, 9, 4, 5};
        for (int site = 0; site < 6; site++) {
            Check.bringAll(x, site, 30 - site);
            x.tread(site, feet[site]);
        }
        wintersAre(x, 7, 123456789, 37, 95, 1016516591);
    }

    // "one LOAD is brought ahead of it": at 30 it is lost, and a site that wants 1 is kept by it
    private static void theLoadComesAheadOfTheDay() {
        // By 7 the sun is 4 and the load goes to 0; by 16 the sun is 4 and it goes to 1.
        SnowTerm x = Check.cityOf("s1,s1;0");
        Check.bringAll(x, 0, 30);
        due("19: it is lost at 30", x.winters(1, 7, 1), 26);
        due("19: it melts at 1", x.winters(1, 16, 1), 26);
        // By 26 the sun is 2, and the load goes to the last of two, three, four, five and six.
        for (int sites = 2; sites <= 6; sites++) {
            x = Check.cityOf("t9," + "t9,".repeat(sites - 2) + "t1;9");
            due("19: the last of " + sites + " is kept", x.winters(1, 26, 0), 1);
            due("19: one lies there", x.winters(1, 26, 1), 1);
        }
        x = Check.cityOf("t1,t9;9");
        due("19: the first is kept", x.winters(1, 0, 0), 1);
        due("19: the first is not", x.winters(1, 26, 0), 0);
    }

    public static void main(String[] args) {
        deepAndLeftAreFrom0To30();
        sixAreFoundAtMost();
        eachOfSixTells();
        everySunHasItsBit();
        sunsWhereNoneIsLeft();
        foundWithTheFeetOfThen();
        noCityNoSuns();
        lookTellsTheLeastOfLikeOnes();
        lookGoesByWhatIsFound();
        lookKnowsSuns0And9();
        wintersAtTheirBounds();
        wintersGoOnFromNow();
        theLoadComesAheadOfTheDay();
        CHECK.end();
    }
}
