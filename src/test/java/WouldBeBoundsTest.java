/** Promises 12 to 14, a test for each sentence that names a boundary: what would be. */
public final class WouldBeBoundsTest {
    private static final int NONE = -1, UNKNOWN = -101, OUTSIDE = -102, STATE = -103;
    private static final Check CHECK = new Check("WouldBeBoundsTest");

    private static void due(String call, long got, long want) {
        CHECK.due(call, got, want);
    }

    /** Whether site 0 is kept in the end of each day (for 0: now) once so many loads were brought. */
    private static boolean isKeptThrough(SnowTerm x, int loads, int days) {
        Check.bringAll(x, 0, loads);
        boolean kept = days > 0 || x.about(0, 5) == 1;
        for (int i = 0; i < days; i++) {
            x.day();
            kept = kept && x.about(0, 5) == 1;
        }
        return kept;
    }

    private static SnowTerm withSnow(String city, int snow, int feet) {
        SnowTerm x = Check.cityOf(city);
        Check.bringAll(x, 0, snow);
        x.tread(0, feet);
        return x;
    }

    // "the least LOADS (0 to 30) ... so that it is KEPT in the end of each of them (for 0: now); none"
    private static void needIsTheLeast() {
        for (String city : new String[] {"s9,s1;3", "y1,s1;5", "g4,s1;9", "b3,s1;3", "t9,s1;9", "s1,s1;0"}) {
            for (int snow = 0; snow <= 30; snow += 6) {
                for (int days = 0; days <= 9; days++) {
                    String told = "12: need(0, " + days + ") in " + city + " with " + snow;
                    int need = withSnow(city, snow, 1).need(0, days);
                    int brought = need == NONE ? 30 : need;
                    due(told + " is enough", isKeptThrough(withSnow(city, snow, 1), brought, days) ? 1 : 0,
                            need == NONE ? 0 : 1);
                    if (need > 0) {
                        due(told + " is the least",
                                isKeptThrough(withSnow(city, snow, 1), need - 1, days) ? 1 : 0, 0);
                    }
                }
            }
        }
    }

    // "LOADS (0 to 30)": just 30, one that would be 31, and 0
    private static void needIsFrom0To30() {
        // 9 and 7 times 3 are 30; 9 and 8 times 3 are not to be had.
        SnowTerm x = Check.cityOf("s9,s6;3");
        due("12: just 30", x.need(0, 7), 30);
        due("12: 33", x.need(0, 8), NONE);
        due("12: 6 and 8 times 3", x.need(1, 8), 30);
        x = Check.cityOf("b3,b4;3");
        due("12: 3 and 9 times 3", x.need(0, 9), 30);
        due("12: 31", x.need(1, 9), NONE);
        x.bring(1, 1);
        due("12: 31 with 1 that lies there", x.need(1, 9), NONE);
        Check.bringAll(x, 0, 29);
        due("12: 1 more", x.need(0, 9), 1);
        x.bring(0, 1);
        due("12: with 30 there is no need", x.need(0, 9), 0);
        Check.bringAll(x, 1, 30);
        due("12: with 30 it is none yet", x.need(1, 9), NONE);
        due("12: with 30 there is no need for 8", x.need(1, 8), 0);
    }

    // "(for 0: now)"
    private static void needForNoDayIsNow() {
        for (int want = 1; want <= 9; want++) {
            SnowTerm x = Check.cityOf("s" + want + ",s1;9");
            x.tread(0, 9);
            for (int snow = 0; snow <= 10; snow++) {
                due("12: need(0, 0), " + want + " wanted of " + snow, x.need(0, 0), Math.max(0, want - snow));
                x.bring(0, 1);
            }
        }
    }

    // "OUTSIDE: days (0 to 9)", and behind UNKNOWN
    private static void needIsFor0To9Days() {
        SnowTerm x = Check.cityOf("s9,s9;0");
        for (int days = -3; days <= 13; days++) {
            due("12: need(1, " + days + ")", x.need(1, days), days >= 0 && days <= 9 ? 9 : OUTSIDE);
            due("12: need(2, " + days + ")", x.need(2, days), UNKNOWN);
            due("12: no city", new SnowTerm().need(0, days), UNKNOWN);
        }
    }

    private static void planIs(String when, SnowTerm x, int loads, int days, int... answers) {
        for (int what = 0; what < 4; what++) {
            due("13: " + when + ", " + Calls.told("plan", loads, days, what),
                    x.plan(loads, days, what), answers[what]);
        }
    }

    // "with no more LOADS in all"
    private static void plansTakeNoMoreLoads() {
        SnowTerm x = Check.cityOf("s1,s2,s3,s4,s5,s6;0");
        planIs("no load", x, 0, 0, 0, 0, 0, 0);
        planIs("one", x, 1, 0, 1, 1, 1, 1);
        planIs("one fewer than two need", x, 2, 0, 1, 1, 1, 1);
        planIs("just what two need", x, 3, 0, 2, 3, 3, 5);
        planIs("one fewer than all need", x, 20, 0, 5, 31, 15, 55);
        planIs("just what all need", x, 21, 0, 6, 63, 21, 91);
        planIs("more than all need", x, 60, 9, 6, 63, 21, 91);
    }

    // "LOADS (0 to 60)": two sites of 30
    private static void plansAreFor60LoadsAtMost() {
        SnowTerm x = Check.cityOf("b3,b3,b3;3");
        planIs("twice 30", x, 60, 9, 2, 3, 60, 90);
        planIs("59 are too few", x, 59, 9, 1, 1, 30, 30);
        planIs("just 30", x, 30, 9, 1, 1, 30, 30);
        planIs("29 are too few", x, 29, 9, 0, 0, 0, 0);
        for (int edge : new int[] {-1, 61}) {
            due("13: plan(" + edge + ", 0, 0)", x.plan(edge, 0, 0), OUTSIDE);
        }
        for (int days = -2; days <= 11; days++) {
            due("13: plan(0, " + days + ", 0)", x.plan(0, days, 0), days >= 0 && days <= 9 ? 0 : OUTSIDE);
        }
        for (int what = -2; what <= 5; what++) {
            due("13: plan(0, 0, " + what + ")", x.plan(0, 0, what), what >= 0 && what <= 3 ? 0 : OUTSIDE);
            due("13: no city", new SnowTerm().plan(0, 0, what), what >= 0 && what <= 3 ? STATE : OUTSIDE);
        }
    }

    // A SITE that cannot be kept is in no plan, one that needs nothing is in each.
    private static void plansGoByNeed() {
        SnowTerm x = Check.cityOf("s9,b1,s9;9");
        planIs("none can be kept", x, 60, 9, 0, 0, 0, 0);
        planIs("one can", x, 60, 3, 1, 2, 28, 56);
        x = Check.cityOf("s9,s9,s9,s9,s9,s9;0");
        for (int site = 0; site < 6; site++) {
            x.bring(site, 9);
        }
        planIs("nothing is needed", x, 0, 9, 6, 63, 0, 0);
        x.sun(9);
        planIs("nothing is needed now", x, 0, 0, 6, 63, 0, 0);
        planIs("each needs 9 for a day", x, 53, 1, 5, 31, 45, 135);
    }

    // "so that most are KEPT so ...; of these so that they cost least; of like ones the least bits"
    private static void likePlansGoByCostThenBits() {
        planIs("more ahead of cheaper", Check.cityOf("s9,s9,s1,s1;0"), 9, 0, 2, 12, 2, 7);
        planIs("cheaper, with higher bits", Check.cityOf("s7,s3;0"), 7, 0, 1, 2, 3, 6);
        planIs("cheaper, with lower bits", Check.cityOf("s5,s3;0"), 5, 0, 1, 1, 5, 5);
        planIs("just one pair fits", Check.cityOf("s6,s3,s2,s9;0"), 6, 0, 2, 6, 5, 12);
        planIs("like ones", Check.cityOf("s6,s3,s2;0"), 4, 0, 1, 2, 3, 6);
        planIs("pairs of like ones", Check.cityOf("s6,s3,s2;0"), 8, 0, 2, 5, 8, 12);
        // 6 for 0, 3 for 1, 2 for 2, 1 for 5: 6 each.
        SnowTerm x = Check.cityOf("s6,s3,s2,s9,s9,s1;0");
        planIs("the last alone", x, 1, 0, 1, 32, 1, 6);
        planIs("the last or 2", x, 2, 0, 1, 4, 2, 6);
        planIs("two, but the first", x, 3, 0, 2, 36, 3, 12);
    }

    private static void errorIs(String when, SnowTerm x, int pair, int kept) {
        due("14: error(0), " + when, x.error(0), pair);
        due("14: error(1), " + when, x.error(1), kept);
    }

    // "none, if there are no more KEPT by any than there are"
    private static void noErrorWithoutMoreKept() {
        errorIs("nothing was brought", Check.cityOf("s1,s1;0"), NONE, NONE);
        SnowTerm x = Check.cityOf("s3,s3;0");
        x.bring(0, 3);
        errorIs("one is kept, and one would be", x, NONE, NONE);
        x.bring(1, 2);
        errorIs("still one", x, NONE, NONE);
        x.bring(1, 1);
        errorIs("all are kept", x, NONE, NONE);
        x = Check.cityOf("s3,s2;0");
        x.bring(0, 2);
        errorIs("none is kept, and one would be", x, 1, 1);
        x.bring(1, 3);
        errorIs("one is kept, and both would be", x, 1, 2);
        x.bring(0, 1);
        errorIs("both are kept", x, NONE, NONE);
    }

    // "which two (10 times the lesser number, and the greater one, together) ... of like ones the least"
    private static void theLeastOfLikeErrors() {
        SnowTerm x = Check.cityOf("s9,s9,s9,s9,s9,s2;0");
        x.bring(0, 2);
        errorIs("0 and 5 are told as 5", x, 5, 1);
        x.bring(4, 2);
        errorIs("5 and 45 are alike", x, 5, 1);
        x = Check.cityOf("s9,s2,s2,s9,s9,s2;0");
        x.bring(4, 2);
        errorIs("14, 24 and 45 are alike", x, 14, 1);
        x.bring(0, 2);
        errorIs("1, 2, 5 and those are alike", x, 1, 1);
        x = Check.cityOf("s2,s9,s9,s4,s4,s9;0");
        x.bring(0, 5);
        x.bring(4, 2);
        errorIs("4 lets both be kept, 3 but one", x, 4, 2);
        x = Check.cityOf("s1,s1,s1,s1,s9,s1;0");
        x.bring(4, 1);
        for (int site = 0; site < 4; site++) {
            x.bring(site, 1);
        }
        errorIs("the last pair, five of six", x, 45, 5);
    }

    // "SNOW lay as DEEP as in the end of that DAY, or at first, and as many DEEPER, 30 at most"
    private static void errorsStartFromTheEndOfTheDay() {
        SnowTerm x = Check.cityOf("s5,s9;1");
        x.bring(0, 4);
        x.bring(1, 5);
        errorIs("at first none lay", x, 1, 1);
        x.day();
        // 3 and 4 lie now.
        errorIs("what was brought ahead of the day stays", x, NONE, NONE);
        x.bring(1, 2);
        errorIs("3 and 2 would be 5", x, 1, 1);
        x.bring(0, 1);
        errorIs("3 and 2 would be 5, 4 and 1 not 9", x, 1, 1);
        x.bring(1, 3);
        errorIs("4 and 5 are 9, so one is kept, and one would be", x, NONE, NONE);
        x.bring(0, 4);
        errorIs("both are kept, and would be", x, NONE, NONE);
    }

    // "30 at most": what was lost where it went counts where it had gone, too
    private static void errorsKnowTheCap() {
        SnowTerm x = Check.cityOf("s9,s9;1");
        Check.bringAll(x, 0, 30);
        x.day();
        Check.bringAll(x, 0, 9);
        // 29 lay, 9 were brought, 8 were lost: 29 stay at 0, and all 9 had come to 1.
        errorIs("9 brought of which 1 lay there", x, 1, 2);
        x.image();
        x.day();
        errorIs("not after a day", x, NONE, NONE);
        x.restore();
        errorIs("but from the image", x, 1, 2);
        x = Check.cityOf("s9,s9,s9;1");
        Check.bringAll(x, 0, 99);
        errorIs("99 would be 30 elsewhere, but none at 0", x, NONE, NONE);
        x.day();
        Check.bringAll(x, 0, 99);
        errorIs("and 29 stay at 0 now", x, 1, 2);
        x.bring(2, 9);
        errorIs("and 2 is kept as well", x, 1, 3);
    }

    // "OUTSIDE; STATE: no CITY"
    private static void errorTellsTwoThings() {
        for (int what = -2; what <= 3; what++) {
            boolean taken = what == 0 || what == 1;
            due("14: error(" + what + ")", Check.cityOf("s1,s1;0").error(what), taken ? NONE : OUTSIDE);
            due("14: error(" + what + "), no city", new SnowTerm().error(what), taken ? STATE : OUTSIDE);
        }
    }

    public static void main(String[] args) {
        needIsTheLeast();
        needIsFrom0To30();
        needForNoDayIsNow();
        needIsFor0To9Days();
        plansTakeNoMoreLoads();
        plansAreFor60LoadsAtMost();
        plansGoByNeed();
        likePlansGoByCostThenBits();
        noErrorWithoutMoreKept();
        theLeastOfLikeErrors();
        errorsStartFromTheEndOfTheDay();
        errorsKnowTheCap();
        errorTellsTwoThings();
        CHECK.end();
    }
}
