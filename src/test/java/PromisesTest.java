/** Each promise of the document by itself, with answers worked out by hand from its words. */
public final class PromisesTest {
    private static final int NONE = -1, UNKNOWN = -101, OUTSIDE = -102, STATE = -103, FULL = -104;
    private static final int[] FAR = {Integer.MIN_VALUE, Integer.MAX_VALUE};
    private static final Check CHECK = new Check("PromisesTest");

    private static void due(String call, long got, long want) {
        CHECK.due(call, got, want);
    }

    private static void promise1() {
        SnowTerm x = new SnowTerm();
        for (int what = 0; what <= 9; what++) {
            due("1: count(" + what + ")", x.count(what), 0);
        }
        due("1: fault()", x.fault(), 0);
        due("1: about(0, 0)", x.about(0, 0), UNKNOWN);
        due("1: about(0, 9)", x.about(0, 9), UNKNOWN);
        due("1: as(0, 0)", x.as(0, 0), UNKNOWN);
        due("1: bring(0, 1)", x.bring(0, 1), UNKNOWN);
        due("1: tread(0, 1)", x.tread(0, 1), UNKNOWN);
        due("1: need(0, 1)", x.need(0, 1), UNKNOWN);
        due("1: found(0, 1, 1)", x.found(0, 1, 1), UNKNOWN);
        due("1: city()", x.city(), STATE);
        due("1: sun(0)", x.sun(0), STATE);
        due("1: day()", x.day(), STATE);
        due("1: plan(0, 0, 0)", x.plan(0, 0, 0), STATE);
        due("1: error(0)", x.error(0), STATE);
        due("1: suns()", x.suns(), STATE);
        due("1: look()", x.look(), STATE);
        due("1: winters(1, 0, 0)", x.winters(1, 0, 0), STATE);
        due("1: image()", x.image(), STATE);
        due("1: restore()", x.restore(), STATE);
        due("1: forget()", x.forget(), 0);
        due("1: blank()", x.blank(), 0);
    }

    private static void promise2() {
        SnowTerm x = new SnowTerm();
        due("2: letter(31)", x.letter(31), OUTSIDE);
        due("2: letter(127)", x.letter(127), OUTSIDE);
        for (int far : FAR) {
            due("2: letter(far)", x.letter(far), OUTSIDE);
        }
        due("2: letter(32)", x.letter(32), 1);
        due("2: letter(126)", x.letter(126), 2);
        for (int size = 3; size <= 21; size++) {
            due("2: letter(65)", x.letter(65), size);
        }
        due("2: letter(65) with 21", x.letter(65), FULL);
        due("2: letter(31) with 21", x.letter(31), OUTSIDE);
        due("2: count(8)", x.count(8), 21);
    }

    private static void promise3() {
        SnowTerm x = Check.cityOf("s1,s1;0");
        due("3: blank()", x.blank(), 0);
        Check.write(x, "y1?");
        due("3: blank()", x.blank(), 3);
        due("3: blank()", x.blank(), 0);
        due("3: count(8)", x.count(8), 0);
        due("3: count(0)", x.count(0), 2);
        due("3: letter(65)", x.letter(65), 1);
    }

    private static void faultIn(String text, int place) {
        SnowTerm x = new SnowTerm();
        Check.write(x, text);
        due("4: fault() of " + text, x.fault(), place);
        due("4: fault() of " + text + " once more", x.fault(), place);
        due("4: letters of " + text, x.count(8), text.length());
    }

    private static void promise4() {
        faultIn("", 0);
        for (int code = 32; code <= 126; code++) {
            char c = (char) code;
            faultIn("" + c, "sygbt".indexOf(c) >= 0 ? 1 : 0);
            faultIn("g" + c, c >= '1' && c <= '9' ? 2 : 1);
            faultIn("s1" + c, c == ',' ? 3 : 2);
            faultIn("s1,s1" + c, c == ',' || c == ';' ? 6 : 5);
            faultIn("s1,s1;" + c, c >= '0' && c <= '9' ? 7 : 6);
            faultIn("s1,s1;3" + c, 7);
            faultIn("s1,s2,s3,s4,s5,s6" + c, c == ';' ? 18 : 17);
        }
        faultIn("s1,s2,s3,s4,s5,s6;7", 19);
        faultIn("s1,s2,s3,s4,s5,s6;77x", 19);
        faultIn("s1,s2,s3,s4,s5", 14);
        faultIn("s1,s2,s3,s4,s5,", 15);
        faultIn("x1;;;", 0);
        faultIn("s1,,", 3);
    }

    private static void refusedAsCity(String text) {
        SnowTerm x = Check.cityOf("t9,t9;9");
        x.bring(0, 3);
        Check.write(x, text);
        due("5: city() of " + text, x.city(), STATE);
        due("5: letters of " + text, x.count(8), text.length());
        due("5: the city that was", x.about(0, 2), 3);
        due("5: cities read", x.count(9), 1);
    }

    private static void promise5() {
        for (String text : new String[] {"", "s", "s1", "s1;3", "s1,", "s1,s1", "s1,s1;", "s1,s1;33",
            "s0,s1;3", "s1,s1;x", "S1,s1;3", "s1,s1,;3", "s1,s2,s3,s4,s5,s6,s7", " s1,s1;3"}) {
            refusedAsCity(text);
        }
        SnowTerm x = new SnowTerm();
        Check.write(x, "s1,y9,g5,b4,t3,s2;7");
        due("5: city()", x.city(), 6);
        int[] kinds = {0, 1, 2, 3, 4, 0};
        int[] wants = {1, 9, 5, 4, 3, 2};
        for (int site = 0; site < 6; site++) {
            due("5: kind of " + site, x.about(site, 0), kinds[site]);
            due("5: want of " + site, x.about(site, 1), wants[site]);
        }
        due("5: count(1)", x.count(1), 7);
        due("5: count(8)", x.count(8), 0);

        for (int site = 0; site < 6; site++) {
            x.bring(site, 9);
            x.tread(site, 2);
        }
        x.found(0, 5, 5);
        x.day();
        x.bring(1, 4);
        x.image();
        Check.write(x, "g1,t1;0");
        due("5: city() once more", x.city(), 2);
        for (int what = 2; what <= 6; what++) {
            due("5: about(0, " + what + ")", x.about(0, what), 0);
            due("5: about(1, " + what + ")", x.about(1, what), 0);
        }
        long[] counts = {2, 0, 0, 0, 0, 0, 0, 0, 0, 2};
        for (int what = 0; what <= 9; what++) {
            due("5: count(" + what + ")", x.count(what), counts[what]);
        }
        due("5: about(2, 0)", x.about(2, 0), UNKNOWN);
        due("5: suns()", x.suns(), 1023);
        due("5: restore()", x.restore(), STATE);
        due("5: error(0)", x.error(0), NONE);
        due("5: city() of an empty page", x.city(), STATE);
    }

    private static void meltsAre(String kind, int sun, int feet, int melts) {
        SnowTerm x = Check.cityOf("s1," + kind + "1;" + sun);
        x.tread(1, feet);
        due("6: " + kind + " melts by " + sun + " and " + feet, x.about(1, 4), melts);
        Check.bringAll(x, 1, 30);
        x.day();
        due("6: " + kind + " has left", x.about(1, 2), 30 - melts);
    }

    private static void promise6() {
        int[][] rows = {
            // sun, feet, then what melts on s, y, g, b, t
            {0, 0, 0, 0, 0, 0, 0}, {1, 0, 1, 0, 0, 1, 0}, {0, 1, 1, 0, 0, 0, 0}, {1, 1, 2, 0, 1, 1, 0},
            {2, 1, 3, 1, 1, 2, 0}, {2, 2, 4, 2, 2, 2, 1}, {0, 5, 5, 3, 2, 0, 1}, {9, 9, 18, 16, 9, 9, 8},
            {9, 0, 9, 7, 4, 9, 3}, {0, 9, 9, 7, 4, 0, 3},
        };
        for (int[] row : rows) {
            for (int kind = 0; kind < 5; kind++) {
                meltsAre("" + "sygbt".charAt(kind), row[0], row[1], row[2 + kind]);
            }
        }
        SnowTerm x = Check.cityOf("t3,b4;6");
        x.tread(0, 5);
        x.bring(0, 2);
        x.bring(1, 4);
        x.bring(1, 1);
        int[][] about = {{4, 3, 2, 5, 4, 0, 2}, {3, 4, 5, 0, 6, 1, 5}};
        for (int site = 0; site < 2; site++) {
            for (int what = 0; what <= 6; what++) {
                due("6: about(" + site + ", " + what + ")", x.about(site, what), about[site][what]);
            }
        }
        x.bring(0, 1);
        due("6: kept with just as much", x.about(0, 5), 1);
        due("6: about(0, -1)", x.about(0, -1), OUTSIDE);
        due("6: about(0, 7)", x.about(0, 7), OUTSIDE);
        due("6: about(2, 0)", x.about(2, 0), UNKNOWN);
        due("6: about(-1, 7)", x.about(-1, 7), UNKNOWN);
        for (int far : FAR) {
            due("6: about(far, 0)", x.about(far, 0), UNKNOWN);
            due("6: about(0, far)", x.about(0, far), OUTSIDE);
        }
    }

    private static void promise7() {
        SnowTerm x = Check.cityOf("s1,y1,g1,b1,t1;0");
        boolean[][] is = {
            {true, false, false, false, false}, {true, true, false, false, false},
            {true, false, true, false, false}, {true, false, false, true, false},
            {true, false, true, false, true},
        };
        for (int site = 0; site < 5; site++) {
            for (int kind = 0; kind < 5; kind++) {
                due("7: as(" + site + ", " + kind + ")", x.as(site, kind), is[site][kind] ? site : NONE);
            }
            due("7: as(" + site + ", 5)", x.as(site, 5), OUTSIDE);
            due("7: as(" + site + ", -1)", x.as(site, -1), OUTSIDE);
        }
        due("7: as(5, 0)", x.as(5, 0), UNKNOWN);
        due("7: as(-1, 9)", x.as(-1, 9), UNKNOWN);
    }

    private static void promise8() {
        SnowTerm x = Check.cityOf("s5,s5,s5;1");
        due("8: bring(0, 1)", x.bring(0, 1), 1);
        due("8: bring(2, 9)", x.bring(2, 9), 9);
        due("8: count(6)", x.count(6), 1 + 27);
        due("8: bring(0, 0)", x.bring(0, 0), OUTSIDE);
        due("8: bring(0, 10)", x.bring(0, 10), OUTSIDE);
        due("8: bring(3, 0)", x.bring(3, 0), UNKNOWN);
        due("8: bring(-1, 1)", x.bring(-1, 1), UNKNOWN);
        for (int far : FAR) {
            due("8: bring(0, far)", x.bring(0, far), OUTSIDE);
        }
        due("8: bring(2, 9)", x.bring(2, 9), 18);
        due("8: bring(2, 9)", x.bring(2, 9), 27);
        due("8: bring(2, 4), one is lost", x.bring(2, 4), 30);
        due("8: what is lost is paid", x.count(6), 1 + 3 * 31);
        for (int i = 0; i < 7; i++) {
            due("8: bring(2, 9)", x.bring(2, 9), 30);
        }
        due("8: about(2, 6)", x.about(2, 6), 94);
        due("8: bring(2, 6)", x.bring(2, 6), FULL);
        due("8: bring(2, 10), full or not", x.bring(2, 10), OUTSIDE);
        due("8: bring(2, 5)", x.bring(2, 5), 30);
        due("8: about(2, 6)", x.about(2, 6), 99);
        due("8: bring(2, 1)", x.bring(2, 1), FULL);
        due("8: count(6)", x.count(6), 1 + 3 * 99);
        due("8: bring(1, 1)", x.bring(1, 1), 1);
        x.day();
        due("8: bring(2, 1) the next night", x.bring(2, 1), 30);
    }

    private static void promise9() {
        SnowTerm x = Check.cityOf("s5,s5;0");
        due("9: tread(1, 9)", x.tread(1, 9), 0);
        due("9: tread(1, 0)", x.tread(1, 0), 9);
        due("9: tread(1, 4)", x.tread(1, 4), 0);
        due("9: tread(0, 10)", x.tread(0, 10), OUTSIDE);
        due("9: tread(0, -1)", x.tread(0, -1), OUTSIDE);
        due("9: tread(2, -1)", x.tread(2, -1), UNKNOWN);
        due("9: tread(-1, 0)", x.tread(-1, 0), UNKNOWN);
        due("9: about(0, 3)", x.about(0, 3), 0);
        Check.bringAll(x, 1, 20);
        x.day();
        x.day();
        due("9: they tread on each day", x.about(1, 2), 12);
        due("9: about(1, 3)", x.about(1, 3), 4);
    }

    private static void promise10() {
        SnowTerm x = Check.cityOf("s5,s5;4");
        due("10: sun(9)", x.sun(9), 4);
        due("10: sun(0)", x.sun(0), 9);
        due("10: sun(10)", x.sun(10), OUTSIDE);
        due("10: sun(-1)", x.sun(-1), OUTSIDE);
        due("10: sun(3)", x.sun(3), 0);
        due("10: about(0, 4)", x.about(0, 4), 3);
        due("10: sun(10), no city", new SnowTerm().sun(10), OUTSIDE);
    }

    private static void promise11() {
        SnowTerm x = Check.cityOf("s3,b2,y4;2");
        Check.bringAll(x, 0, 9);
        Check.bringAll(x, 1, 4);
        Check.bringAll(x, 2, 4);
        x.tread(0, 1);
        x.tread(1, 8);
        due("11: day()", x.day(), 3);
        due("11: snow 0", x.about(0, 2), 6);
        due("11: snow 1", x.about(1, 2), 2);
        due("11: snow 2", x.about(2, 2), 4);
        due("11: brought 0", x.about(0, 6), 0);
        due("11: day()", x.day(), 2);
        due("11: day()", x.day(), 1);
        due("11: less than melts leaves none", x.about(1, 2), 0);
        due("11: count(2)", x.count(2), 3);
        due("11: count(5)", x.count(5), 6);
        due("11: what it cost stays", x.count(6), 9 + 8 + 12);
    }

    private static void promise12() {
        SnowTerm x = Check.cityOf("s5,y9,b3;3");
        due("12: need(0, 0)", x.need(0, 0), 5);
        due("12: need(0, 1)", x.need(0, 1), 8);
        due("12: need(0, 8)", x.need(0, 8), 29);
        due("12: need(0, 9)", x.need(0, 9), NONE);
        due("12: need(1, 9)", x.need(1, 9), 18);
        due("12: need(2, 9), just 30", x.need(2, 9), 30);
        x.bring(0, 9);
        due("12: need(0, 0) with enough", x.need(0, 0), 0);
        due("12: need(0, 1) with more than enough", x.need(0, 1), 0);
        due("12: need(0, 2)", x.need(0, 2), 2);
        due("12: need(0, 9)", x.need(0, 9), NONE);
        x.tread(0, 4);
        due("12: need(0, 3), trodden", x.need(0, 3), 17);
        due("12: need(3, 10)", x.need(3, 10), UNKNOWN);
        due("12: need(-1, 0)", x.need(-1, 0), UNKNOWN);
        due("12: need(0, 10)", x.need(0, 10), OUTSIDE);
        due("12: need(0, -1)", x.need(0, -1), OUTSIDE);
        due("12: nothing is brought", x.about(0, 2), 9);
    }

    private static void planIs(SnowTerm x, int loads, int days, int... answers) {
        for (int what = 0; what < 4; what++) {
            due("13: plan(" + loads + ", " + days + ", " + what + ")",
                    x.plan(loads, days, what), answers[what]);
        }
    }

    private static void promise13() {
        SnowTerm x = Check.cityOf("s9,s3,s3,s1;0");
        planIs(x, 0, 0, 0, 0, 0, 0);
        planIs(x, 1, 0, 1, 8, 1, 4);
        planIs(x, 3, 0, 1, 8, 1, 4);
        // 1 and 3 cost 6 + 4, 2 and 3 cost 9 + 4
        planIs(x, 4, 0, 2, 10, 4, 10);
        planIs(x, 16, 9, 4, 15, 16, 28);
        // 0, 1 and 3 cost 19, and so do 1, 2 and 3: the least bits, though they are more loads.
        planIs(x, 15, 0, 3, 11, 13, 19);
        planIs(x, 12, 0, 3, 14, 7, 19);
        planIs(x, 60, 0, 4, 15, 16, 28);
        // Alike in number and cost: 4 for 0, 2 for 1 cost 4 each; the least bits.
        planIs(Check.cityOf("s4,s2;0"), 4, 0, 1, 1, 4, 4);
        // What needs nothing is kept, too, for nothing; what cannot be kept is left out.
        x = Check.cityOf("s2,s5,s2;4");
        Check.bringAll(x, 0, 30);
        planIs(x, 0, 2, 1, 1, 0, 0);
        planIs(x, 10, 2, 2, 5, 10, 30);
        planIs(x, 60, 7, 2, 5, 30, 90);
        planIs(x, 60, 8, 0, 0, 0, 0);
        due("13: plan(61, 0, 0)", x.plan(61, 0, 0), OUTSIDE);
        due("13: plan(-1, 0, 0)", x.plan(-1, 0, 0), OUTSIDE);
        due("13: plan(0, 10, 0)", x.plan(0, 10, 0), OUTSIDE);
        due("13: plan(0, -1, 0)", x.plan(0, -1, 0), OUTSIDE);
        due("13: plan(0, 0, 4)", x.plan(0, 0, 4), OUTSIDE);
        due("13: plan(0, 0, -1)", x.plan(0, 0, -1), OUTSIDE);
        due("13: plan(0, 0, 4), no city", new SnowTerm().plan(0, 0, 4), OUTSIDE);
        due("13: nothing is brought", x.count(3), 30);
    }

    private static void errorIs(String when, SnowTerm x, int pair, int kept) {
        due("14: error(0), " + when, x.error(0), pair);
        due("14: error(1), " + when, x.error(1), kept);
    }

    private static void promise14() {
        SnowTerm x = Check.cityOf("s9,s3,s3,s1;2");
        errorIs("nothing brought", x, NONE, NONE);
        x.bring(1, 2);
        errorIs("2 would do at 3", x, 13, 1);
        x.bring(0, 3);
        errorIs("3 would do at 1, 2 and 3", x, 1, 1);
        x.bring(2, 9);
        // 2 is kept now; by 0 and 1 it is two, by 0 and 2 as well: the least.
        errorIs("two by 0 and 1", x, 1, 2);
        due("14: nothing is changed", x.about(0, 2), 3);
        due("14: count(4)", x.count(4), 1);
        x.day();
        errorIs("a day later", x, NONE, NONE);
        // In the end of that day 1, 0, 7 and 0 lie there.
        x.bring(2, 8);
        errorIs("9 at 0 with the 1 that was left, 7 that were at 2", x, 2, 2);
        x.bring(0, 8);
        errorIs("8 would do at 1, and 2 does without", x, 12, 3);

        // What the cap hides: 20 lay, 30 were brought; without them it is 20 again, not 0.
        x = Check.cityOf("s9,s9;0");
        Check.bringAll(x, 0, 20);
        x.day();
        Check.bringAll(x, 0, 30);
        errorIs("what lay in the end of the day stays", x, 1, 2);
        x.image();
        x.sun(9);
        for (int i = 0; i < 4; i++) {
            x.day();
        }
        x.restore();
        errorIs("so it does in an image", x, 1, 2);
        x = Check.cityOf("s9,s9,s9,s9,s9,s3;0");
        x.bring(4, 3);
        errorIs("the last two", x, 45, 1);
        due("14: error(2)", x.error(2), OUTSIDE);
        due("14: error(-1)", x.error(-1), OUTSIDE);
        due("14: error(2), no city", new SnowTerm().error(2), OUTSIDE);
    }

    private static void promise15() {
        SnowTerm x = Check.cityOf("s9,s9;0");
        due("15: found(2, 31, 0)", x.found(2, 31, 0), UNKNOWN);
        due("15: found(-1, 0, 0)", x.found(-1, 0, 0), UNKNOWN);
        due("15: found(0, 31, 0)", x.found(0, 31, 0), OUTSIDE);
        due("15: found(0, -1, 0)", x.found(0, -1, 0), OUTSIDE);
        due("15: found(0, 0, 31)", x.found(0, 0, 31), OUTSIDE);
        due("15: found(0, 0, -1)", x.found(0, 0, -1), OUTSIDE);
        for (int many = 1; many <= 6; many++) {
            due("15: found(1, 30, 30)", x.found(1, 30, 30), many);
        }
        due("15: found(0, 0, 0), the seventh", x.found(0, 0, 0), FULL);
        due("15: found(0, 0, 31), the seventh", x.found(0, 0, 31), OUTSIDE);
        due("15: count(7)", x.count(7), 6);
        due("15: no snow is changed", x.count(3), 0);
    }

    private static void promise16() {
        SnowTerm x = Check.cityOf("s9,s9;0");
        x.found(0, 9, 8);
        x.found(0, 9, 7);
        due("16: forget()", x.forget(), 2);
        due("16: suns()", x.suns(), 1023);
        due("16: count(7)", x.count(7), 0);
        due("16: forget()", x.forget(), 0);
        due("16: found(0, 1, 1)", x.found(0, 1, 1), 1);
    }

    private static void promise17() {
        SnowTerm x = Check.cityOf("s9,y9,g9,b9,t9;5");
        due("17: suns()", x.suns(), 1023);
        x.found(2, 20, 18);
        due("17: 4 and 5 by the grave", x.suns(), 16 + 32);
        x.found(1, 20, 17);
        due("17: 5 by the yard", x.suns(), 32);
        x.found(3, 20, 16);
        due("17: none by the stand, too", x.suns(), 0);
        x.forget();
        x.found(0, 4, 0);
        due("17: where none is left, 4 or stronger", x.suns(), 1023 - 15);
        x.forget();
        x.found(0, 4, 5);
        due("17: more left than there was", x.suns(), 0);
        x.forget();
        x.found(4, 10, 10);
        due("17: 0 to 3 by the tomb", x.suns(), 15);
        x.tread(0, 6);
        x.found(0, 20, 12);
        due("17: 2 and 6 feet", x.suns(), 4);
        x.tread(0, 0);
        due("17: by the feet that trod then", x.suns(), 4);
    }

    private static void promise18() {
        SnowTerm x = Check.cityOf("t9,g9,s9,b9;5");
        due("18: look(), s tells all suns apart", x.look(), 2);
        x.found(3, 20, 20);
        due("18: look(), one sun is left", x.look(), 0);
        x.forget();
        x.found(1, 20, 18);
        due("18: look(), 4 and 5", x.look(), 2);
        x.tread(1, 1);
        due("18: look(), with odd feet the grave tells them apart", x.look(), 1);
        x.tread(0, 3);
        due("18: look(), and so does the tomb", x.look(), 0);
        x.found(1, 0, 1);
        due("18: look(), no sun", x.look(), NONE);
        x = Check.cityOf("t9,g9;5");
        // The tomb leaves 30 under 0 to 3, the grave only by twos.
        due("18: look(), four at worst or two", x.look(), 1);
        x = Check.cityOf("y9,g9;5");
        // The yard leaves 30 under 0 to 2, three at worst.
        due("18: look(), three at worst or two", x.look(), 1);
        x = Check.cityOf("g9,s9;5");
        x.found(0, 20, 16);
        due("18: look(), 8 and 9", x.look(), 1);
        x.forget();
        x.found(0, 20, 20);
        due("18: look(), 0 and 1", x.look(), 1);
        due("18: nothing is found by it", x.count(7), 1);
    }

    private static void promise19() {
        // From 0 the seeds are 12345, 1406932606, 654583775, 1449466924; by 65536: 0, 21468, 9988, 22117.
        SnowTerm x = Check.cityOf("s1,s1;9");
        due("19: seed of one day", x.winters(1, 0, 2), 1406932606);
        due("19: seed of two days", x.winters(2, 0, 2), 1449466924);
        // Sun 0, a load to 0: one is kept. Then sun 3, a load to 1: none.
        due("19: praise of one day", x.winters(1, 0, 0), 1);
        due("19: snow of one day", x.winters(1, 0, 1), 1);
        due("19: praise of two days", x.winters(2, 0, 0), 1);
        due("19: snow of two days", x.winters(2, 0, 1), 0);
        Check.bringAll(x, 0, 30);
        Check.bringAll(x, 1, 8);
        x.tread(0, 4);
        x.day();
        // 17 and 0 lie now; the load comes ahead of the day: 18 - 4, then 14 - 7.
        due("19: count(3)", x.count(3), 17);
        due("19: snow", x.winters(1, 0, 1), 14);
        due("19: snow", x.winters(2, 0, 1), 7);
        due("19: praise for them alone", x.winters(2, 0, 0), 2);
        due("19: nothing is changed", x.count(3), 17);
        due("19: count(1)", x.count(1), 9);
        due("19: count(2)", x.count(2), 1);
        due("19: count(5)", x.count(5), 1);
        due("19: count(6)", x.count(6), 30 + 16);
        // With three sites 21468 and 22117 leave 0 and 1; 30 is the most there can be.
        x = Check.cityOf("s1,s1,s1;9");
        Check.bringAll(x, 0, 30);
        due("19: 30 at most", x.winters(1, 0, 1), 30);
        due("19: the greatest seed", x.winters(1, Integer.MAX_VALUE, 2), 288979989);
        // Worked out by a few lines of another language.
        SnowTerm six = Check.cityOf("t3,y1,g2,t9,y4,t1;9");
        due("19: praise of sixty days", six.winters(60, 2026, 0), 87);
        due("19: snow of sixty days", six.winters(60, 2026, 1), 14);
        due("19: seed of sixty days", six.winters(60, 2026, 2), 1492243986);
        six.tread(0, 1);
        six.tread(3, 3);
        due("19: praise of sixty trodden days", six.winters(60, 1 << 30, 0), 59);
        due("19: snow of sixty trodden days", six.winters(60, 1 << 30, 1), 4);
        due("19: winters(0, 0, 0)", x.winters(0, 0, 0), OUTSIDE);
        due("19: winters(61, 0, 0)", x.winters(61, 0, 0), OUTSIDE);
        due("19: winters(1, -1, 0)", x.winters(1, -1, 0), OUTSIDE);
        due("19: winters(1, 0, 3)", x.winters(1, 0, 3), OUTSIDE);
        due("19: winters(1, 0, -1)", x.winters(1, 0, -1), OUTSIDE);
        due("19: winters(0, 0, 0), no city", new SnowTerm().winters(0, 0, 0), OUTSIDE);
    }

    private static void promises20And21() {
        SnowTerm x = Check.cityOf("b2,s2;1");
        due("21: restore(), none kept", x.restore(), STATE);
        Check.bringAll(x, 0, 9);
        x.day();
        x.tread(1, 3);
        x.bring(1, 4);
        x.found(1, 9, 5);
        x.sun(3);
        long then = x.digest();
        due("20: image()", x.image(), 1);
        due("20: nothing is changed", x.digest(), then);
        x.day();
        x.day();
        x.sun(8);
        x.tread(1, 0);
        x.tread(0, 7);
        x.bring(0, 5);
        x.found(0, 4, 4);
        due("21: restore()", x.restore(), 1);
        due("21: all is as it was", x.digest(), then);
        x.forget();
        x.found(0, 7, 7);
        x.bring(1, 9);
        due("21: restore() once more", x.restore(), 1);
        due("21: all is as it was once more", x.digest(), then);
        due("21: the kind and the feet of what is found", x.suns(), 2);
        x.day();
        due("20: the latest", x.image(), 2);
        x.day();
        due("21: restore() the latest", x.restore(), 2);
        Check.write(x, "s2,s2");
        due("21: restore() keeps the page", x.restore(), 2);
        due("21: count(8)", x.count(8), 5);
        due("5: city(), refused", x.city(), STATE);
        due("21: restore(), the city still stands", x.restore(), 2);
        Check.write(x, ";1");
        x.city();
        due("21: restore(), another city", x.restore(), STATE);
        due("20: image()", x.image(), 0);
        due("21: restore()", x.restore(), 0);
        due("21: cities read", x.count(9), 2);
    }

    private static void promise22() {
        SnowTerm x = Check.cityOf("s2,s9,s1;1");
        Check.bringAll(x, 0, 5);
        Check.bringAll(x, 2, 3);
        x.day();
        x.bring(1, 9);
        x.sun(6);
        x.found(0, 1, 1);
        Check.write(x, "abcd");
        int[] counts = {3, 6, 1, 4 + 9 + 2, 3, 2, 5 + 9 + 18, 1, 4, 1};
        for (int what = 0; what <= 9; what++) {
            due("22: count(" + what + ")", x.count(what), counts[what]);
        }
        due("22: count(10)", x.count(10), OUTSIDE);
        due("22: count(-1)", x.count(-1), OUTSIDE);
        for (int far : FAR) {
            due("22: count(far)", x.count(far), OUTSIDE);
        }
    }

    private static void promise23() {
        SnowTerm x = new SnowTerm();
        due("23: digest(), no city", x.digest(), Check.digestOf(0, 0, 0, 0, 0, 0, 0, 0, 0, 0));
        Check.write(x, "y7");
        due("23: digest(), letters", x.digest(), Check.digestOf('y', '7', 0, 0, 0, 0, 0, 0, 0, 0, 2, 0));
        x.blank();
        Check.write(x, "s5,t2;3");
        x.city();
        x.bring(0, 2);
        x.bring(1, 7);
        x.tread(1, 4);
        x.found(0, 9, 6);
        x.letter(' ');
        due("23: digest()", x.digest(), Check.digestOf(
                0, 5, 2, 0, 3, 0, 2, 3, 6, 18,
                4, 2, 7, 4, 2, 1, 7, 0, 0, 5,
                2, 3, 9, 9, 1, 2, 8, 0,
                ' ',
                2, 3, 0, 9, 1, 0, 16, 1, 1, 1));
        long once = x.digest();
        due("23: digest() once more", x.digest(), once);
    }

    public static void main(String[] args) {
        promise1();
        promise2();
        promise3();
        promise4();
        promise5();
        promise6();
        promise7();
        promise8();
        promise9();
        promise10();
        promise11();
        promise12();
        promise13();
        promise14();
        promise15();
        promise16();
        promise17();
        promise18();
        promise19();
        promises20And21();
        promise22();
        promise23();
        CHECK.end();
    }
}
