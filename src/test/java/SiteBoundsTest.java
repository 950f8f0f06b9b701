/** Promises 6 to 11, a test for each sentence that names a boundary: sites, nights and days. */
public final class SiteBoundsTest {
    private static final int NONE = -1, UNKNOWN = -101, OUTSIDE = -102, STATE = -103, FULL = -104;
    private static final Check CHECK = new Check("SiteBoundsTest");

    private static void due(String call, long got, long want) {
        CHECK.due(call, got, want);
    }

    private static SnowTerm sixSites() {
        return Check.cityOf("s1,y2,g3,b4,t5,s6;0");
    }

    /** What melts by the sun and the feet together, from 0 to 18, as the document's words have it. */
    private static final int[] IN_A_YARD = {0, 0, 0, 1, 2, 3, 4, 5, 6, 7, 8, 9, 10, 11, 12, 13, 14, 15, 16};
    private static final int[] ON_A_GRAVE = {0, 0, 1, 1, 2, 2, 3, 3, 4, 4, 5, 5, 6, 6, 7, 7, 8, 8, 9};
    private static final int[] ON_A_TOMB = {0, 0, 0, 0, 1, 1, 2, 2, 3, 3, 4, 4, 5, 5, 6, 6, 7, 7, 8};

    private static void meltsOf(int sun, int feet) {
        SnowTerm x = Check.cityOf("s1,y1,g1,b1,t1;" + sun);
        int both = sun + feet;
        int[] melts = {both, IN_A_YARD[both], ON_A_GRAVE[both], sun, ON_A_TOMB[both]};
        for (int site = 0; site < 5; site++) {
            x.tread(site, feet);
            Check.bringAll(x, site, 30);
            due("6: " + sun + " and " + feet + " at " + site, x.about(site, 4), melts[site]);
        }
        x.day();
        for (int site = 0; site < 5; site++) {
            due("11: " + sun + " and " + feet + " leave at " + site, x.about(site, 2), 30 - melts[site]);
        }
    }

    // "In a DAY it MELTS by the SUN and the FEET there together; in a YARD by 2 less (0 at least); ..."
    private static void everyKindMeltsByEverySunAndFeet() {
        for (int sun = 0; sun <= 9; sun++) {
            for (int feet = 0; feet <= 9; feet++) {
                meltsOf(sun, feet);
            }
        }
    }

    // "Where there is less SNOW than that none is left."
    private static void lessSnowThanMeltsLeavesNone() {
        for (int snow = 0; snow <= 8; snow++) {
            SnowTerm x = Check.cityOf("s1,b1;6");
            Check.bringAll(x, 0, snow);
            Check.bringAll(x, 1, snow);
            due("11: kept of " + snow, x.day(), snow >= 7 ? 2 : 0);
            due("11: left of " + snow, x.about(0, 2), snow == 7 ? 1 : snow == 8 ? 2 : 0);
            due("11: left of " + snow + " in all", x.count(3), snow == 7 ? 2 : snow == 8 ? 4 : 0);
        }
    }

    // "A SITE is KEPT, if SNOW lies as DEEP there as it is WANTED, or DEEPER."
    private static void keptFromJustAsDeep() {
        for (int want = 1; want <= 9; want++) {
            SnowTerm x = Check.cityOf("s" + want + ",s9;0");
            for (int snow = 0; snow <= 30; snow++) {
                due("6: want " + want + ", snow " + snow, x.about(0, 5), snow >= want ? 1 : 0);
                due("22: want " + want + ", snow " + snow, x.count(4), snow >= want ? 1 : 0);
                x.bring(0, 1);
            }
        }
    }

    // "a number names nothing": SITES are numbered from 0
    private static void sitesAreNumberedFrom0() {
        for (String city : new String[] {"t9,t9;9", "t9,t9,t9,t9,t9,t9;9"}) {
            SnowTerm x = Check.cityOf(city);
            int sites = x.count(0);
            for (int site = -2; site <= 8; site++) {
                boolean is = site >= 0 && site < sites;
                due("6: about(" + site + ", 0)", x.about(site, 0), is ? 4 : UNKNOWN);
                due("7: as(" + site + ", 2)", x.as(site, 2), is ? site : UNKNOWN);
                due("8: bring(" + site + ", 9)", x.bring(site, 9), is ? 9 : UNKNOWN);
                due("9: tread(" + site + ", 1)", x.tread(site, 1), is ? 0 : UNKNOWN);
                due("12: need(" + site + ", 0)", x.need(site, 0), is ? 0 : UNKNOWN);
            }
        }
    }

    // "All are SITES; a TOMB is a GRAVE, too." and "NONE: it is none such"
    private static void kindsAreTakenAsKinds() {
        SnowTerm x = sixSites();
        int[] kinds = {0, 1, 2, 3, 4, 0};
        for (int site = 0; site < 6; site++) {
            for (int kind = -1; kind <= 5; kind++) {
                boolean is = kind == 0 || kind == kinds[site] || kinds[site] == 4 && kind == 2;
                int answer = kind < 0 || kind > 4 ? OUTSIDE : is ? site : NONE;
                due("7: as(" + site + ", " + kind + ")", x.as(site, kind), answer);
            }
        }
        due("7: a GRAVE is no TOMB", x.as(2, 4), NONE);
        due("7: site 0 as a SITE is 0, not NONE", x.as(0, 0), 0);
    }

    // "it is by as many DEEPER (30 at most; what is more is lost, and paid)"
    private static void snowIs30DeepAtMost() {
        for (int before = 18; before <= 30; before++) {
            for (int loads = 1; loads <= 9; loads++) {
                SnowTerm x = Check.cityOf("s9,s9;0");
                Check.bringAll(x, 1, before);
                int deep = Math.min(30, before + loads);
                due("8: " + loads + " on " + before, x.bring(1, loads), deep);
                due("8: so deep it lies", x.about(1, 2), deep);
                due("8: so much was brought", x.about(1, 6), before + loads);
                due("8: so much is paid", x.count(6), 2 * (before + loads));
                due("8: nowhere else", x.about(0, 2), 0);
            }
        }
    }

    // "each LOAD costs 1 more than the number of the SITE"
    private static void loadsCostByTheSite() {
        int[] costs = {1, 2, 3, 4, 5, 6};
        for (int site = 0; site < 6; site++) {
            SnowTerm x = sixSites();
            x.bring(site, 1);
            due("8: one load at " + site, x.count(6), costs[site]);
            x.bring(site, 9);
            due("8: ten loads at " + site, x.count(6), 10 * costs[site]);
        }
    }

    // "OUTSIDE: loads (1 to 9)"
    private static void loadsAreFrom1To9() {
        for (int loads = -10; loads <= 20; loads++) {
            SnowTerm x = sixSites();
            boolean taken = loads >= 1 && loads <= 9;
            due("8: bring(5, " + loads + ")", x.bring(5, loads), taken ? loads : OUTSIDE);
            due("8: paid for " + loads, x.count(6), taken ? 6 * loads : 0);
        }
    }

    // "FULL: more than 99 would have been brought there since the last DAY"
    private static void upTo99AreBroughtBetweenDays() {
        for (int before = 90; before <= 99; before++) {
            for (int loads = 1; loads <= 9; loads++) {
                SnowTerm x = Check.cityOf("s1,s1;9");
                Check.bringAll(x, 0, before);
                boolean taken = before + loads <= 99;
                due("8: " + loads + " behind " + before, x.bring(0, loads), taken ? 30 : FULL);
                due("8: brought then", x.about(0, 6), taken ? before + loads : before);
                due("8: paid then", x.count(6), taken ? before + loads : before);
            }
        }
        SnowTerm x = Check.cityOf("s1,s1;9");
        Check.bringAll(x, 0, 99);
        due("8: full at 0", x.bring(0, 1), FULL);
        due("8: not at 1", x.bring(1, 9), 9);
        x.day();
        due("8: since the last DAY none was brought", x.about(0, 6), 0);
        Check.bringAll(x, 0, 98);
        due("8: the 99th of the next night", x.bring(0, 1), 30);
        due("8: the 100th", x.bring(0, 1), FULL);
    }

    // "So many FEET tread there in a DAY: how many did. OUTSIDE: feet (0 to 9)"
    private static void feetAreFrom0To9() {
        SnowTerm x = Check.cityOf("s9,s9;0");
        int did = 0;
        for (int feet = -3; feet <= 13; feet++) {
            boolean taken = feet >= 0 && feet <= 9;
            due("9: tread(1, " + feet + ")", x.tread(1, feet), taken ? did : OUTSIDE);
            did = taken ? feet : did;
            due("9: about(1, 3)", x.about(1, 3), did);
            due("9: about(0, 3)", x.about(0, 3), 0);
        }
        due("9: the same once more", x.tread(1, 9), 9);
        x.day();
        due("9: a DAY does not end them", x.tread(1, 0), 9);
    }

    // "The SUN is so strong: how strong it was. OUTSIDE: sun (0 to 9); STATE: no CITY"
    private static void sunsAreFrom0To9() {
        SnowTerm x = Check.cityOf("s9,s9;5");
        SnowTerm none = new SnowTerm();
        int was = 5;
        for (int sun = -3; sun <= 13; sun++) {
            boolean taken = sun >= 0 && sun <= 9;
            due("10: sun(" + sun + ")", x.sun(sun), taken ? was : OUTSIDE);
            was = taken ? sun : was;
            due("10: count(1)", x.count(1), was);
            due("10: sun(" + sun + "), no city", none.sun(sun), taken ? STATE : OUTSIDE);
        }
        due("10: count(1), no city", none.count(1), 0);
        x.day();
        due("10: a DAY does not change it", x.sun(0), 9);
    }

    // "A DAY: how many are KEPT in the end." and "all that are KEPT are counted as PRAISE"
    private static void daysTellWhatIsKeptInTheEnd() {
        SnowTerm x = Check.cityOf("s9,s8,s7,s6,s5,s4;1");
        due("11: day(), none is kept", x.day(), 0);
        due("11: no praise", x.count(5), 0);
        for (int site = 0; site < 6; site++) {
            Check.bringAll(x, site, 10);
        }
        // 10 melts to 9: all are kept in the end; then one fewer on each day, though it was kept ahead.
        int praise = 0;
        for (int kept = 6; kept >= 0; kept--) {
            due("11: day() with " + kept, x.day(), kept);
            praise += kept;
            due("11: praise", x.count(5), praise);
            due("11: kept now", x.count(4), kept);
        }
        due("11: days", x.count(2), 8);
        due("11: day(), no city", new SnowTerm().day(), STATE);
    }

    // "what = 0 .. 6", "LOADS that were brought since the last DAY"
    private static void aboutTellsSevenThings() {
        SnowTerm x = sixSites();
        x.bring(4, 9);
        x.day();
        x.bring(4, 3);
        x.tread(4, 7);
        x.sun(2);
        int[] answers = {4, 5, 12, 7, 3, 1, 3};
        for (int what = -2; what <= 9; what++) {
            boolean taken = what >= 0 && what <= 6;
            due("6: about(4, " + what + ")", x.about(4, what), taken ? answers[what] : OUTSIDE);
        }
    }

    public static void main(String[] args) {
        everyKindMeltsByEverySunAndFeet();
        lessSnowThanMeltsLeavesNone();
        keptFromJustAsDeep();
        sitesAreNumberedFrom0();
        kindsAreTakenAsKinds();
        snowIs30DeepAtMost();
        loadsCostByTheSite();
        loadsAreFrom1To9();
        upTo99AreBroughtBetweenDays();
        feetAreFrom0To9();
        sunsAreFrom0To9();
        daysTellWhatIsKeptInTheEnd();
        aboutTellsSevenThings();
        CHECK.end();
    }
}
