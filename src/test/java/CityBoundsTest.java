/** Promises 1 to 5, a test for each sentence that names a boundary: the page and the city. */
public final class CityBoundsTest {
    private static final int NONE = -1, UNKNOWN = -101, OUTSIDE = -102, STATE = -103, FULL = -104;
    private static final String LONGEST = "s1,y9,g5,b4,t3,s2;7";
    private static final String FULL_PAGE = "s1,s1,s1,s1,s1,s1;789";
    private static final Check CHECK = new Check("CityBoundsTest");

    private static void due(String call, long got, long want) {
        CHECK.due(call, got, want);
    }

    private static SnowTerm pageOf(String text) {
        SnowTerm x = new SnowTerm();
        Check.write(x, text);
        return x;
    }

    private static String sitesOf(int many) {
        return "b5,".repeat(many - 1) + "b5";
    }

    // "No CITY."
    private static void aNewObjectHasNoCity() {
        SnowTerm x = new SnowTerm();
        due("1: sites", x.count(0), 0);
        due("1: cities read", x.count(9), 0);
        due("1: letters", x.count(8), 0);
        for (int site = -1; site <= 6; site++) {
            due("1: about(" + site + ", 0)", x.about(site, 0), UNKNOWN);
        }
        SnowTerm other = Check.cityOf(LONGEST);
        due("1: one object's city is not another's", x.count(0), 0);
        due("1: nor the other way", other.count(0), 6);
    }

    // "OUTSIDE: code (32 to 126)"
    private static void codesAreFrom32To126() {
        for (int code = -2; code <= 300; code++) {
            due("2: letter(" + code + ")", new SnowTerm().letter(code), code >= 32 && code <= 126 ? 1 : OUTSIDE);
        }
        // Codes that would be within bounds if they were cut to a byte or a char.
        due("2: letter(65536 + 115)", new SnowTerm().letter(65536 + 115), OUTSIDE);
        due("2: letter(256 + 115)", new SnowTerm().letter(256 + 115), OUTSIDE);
        due("2: letter(-115)", new SnowTerm().letter(-115), OUTSIDE);
    }

    // "how many THE PAGE has ... FULL: above 21"
    private static void aPageHas21Letters() {
        SnowTerm x = new SnowTerm();
        for (int i = 0; i < 21; i++) {
            due("2: letter " + (i + 1), x.letter(FULL_PAGE.charAt(i)), i + 1);
        }
        long then = x.digest();
        for (int i = 0; i < 3; i++) {
            due("2: the 22nd letter", x.letter('s'), FULL);
        }
        due("2: a full page stays as it is", x.digest(), then);
        due("2: 21 letters", x.count(8), 21);
        due("3: blank() of a full page", x.blank(), 21);
        due("2: the first letter again", x.letter('s'), 1);
    }

    // "THE PAGE is empty: how many letters it had."
    private static void blankEmptiesAnyPage() {
        SnowTerm x = new SnowTerm();
        due("3: blank() of an empty page, no city", x.blank(), 0);
        for (int letters = 1; letters <= 21; letters++) {
            Check.write(x, FULL_PAGE.substring(0, letters));
            due("3: blank() of " + letters, x.blank(), letters);
            due("3: fault() then", x.fault(), 0);
            due("3: city() then", x.city(), STATE);
        }
        // What stood behind the end is not read again.
        Check.write(x, "t9,t9;9");
        x.blank();
        Check.write(x, "s1,s1");
        due("3: an old ending is gone", x.city(), STATE);
    }

    /** What a city may have behind so many letters of a text of sites with so many sites ahead. */
    private static String allowedAt(int place) {
        switch (place % 3) {
            case 0: return "sygbt";
            case 1: return "123456789";
            default: return place < 5 ? "," : place < 17 ? ",;" : ";";
        }
    }

    // "the first letter of THE PAGE that no CITY has there, behind those ahead of it"
    private static void faultLooksAtEachPlace() {
        String sites = LONGEST.substring(0, 17);
        for (int place = 0; place <= 17; place++) {
            for (char c = 32; c <= 126; c++) {
                String text = sites.substring(0, place) + c;
                boolean fits = allowedAt(place).indexOf(c) >= 0;
                due("4: fault() of " + text, pageOf(text).fault(), fits ? place + 1 : place);
            }
        }
        for (int many = 2; many <= 6; many++) {
            for (char c = 32; c <= 126; c++) {
                String text = sitesOf(many) + ";";
                boolean digit = c >= '0' && c <= '9';
                due("4: fault() of " + text + c, pageOf(text + c).fault(), text.length() + (digit ? 1 : 0));
                due("4: behind the sun " + c, pageOf(text + "0" + c).fault(), text.length() + 1);
            }
        }
    }

    // "how many letters it has, if there is none" and "the first letter", on an empty and a full page
    private static void faultOfEmptyAndFullPages() {
        due("4: fault() of an empty page", new SnowTerm().fault(), 0);
        due("4: a full page, its first fault at 19", pageOf(FULL_PAGE).fault(), 19);
        due("4: a full page, its first fault at 7", pageOf("s1,s1;1s1,s1;1s1,s1;1").fault(), 7);
        due("4: a full page, its first fault at 0", pageOf(",1,s1,s1,s1,s1,s1;789").fault(), 0);
        due("4: a full page, its first fault at 17", pageOf("s1,s1,s1,s1,s1,s1,s1;").fault(), 17);
        due("4: a whole city of 19 letters", pageOf(LONGEST).fault(), 19);
        due("4: a whole city of 7 letters", pageOf("s1,s1;0").fault(), 7);
        due("4: the first of two faults", pageOf("s1,x0").fault(), 3);
    }

    // "two to six SITES"
    private static void citiesHaveTwoToSixSites() {
        due("5: no site", pageOf(";5").city(), STATE);
        due("5: one site", pageOf(sitesOf(1) + ";5").city(), STATE);
        for (int many = 2; many <= 6; many++) {
            SnowTerm x = pageOf(sitesOf(many) + ";5");
            due("5: city() of " + many, x.city(), many);
            due("5: count(0) of " + many, x.count(0), many);
            due("5: the last of " + many, x.about(many - 1, 1), 5);
            due("5: one more than " + many, x.about(many, 1), UNKNOWN);
        }
        due("5: seven sites, as far as the page goes", pageOf(sitesOf(7) + ";5").city(), STATE);
    }

    // "a letter, the KIND, and a digit WANT (1 to 9); ... the SUN (0 to 9)"
    private static void everyKindWantAndSunIsRead() {
        for (int code = 32; code <= 126; code++) {
            char c = (char) code;
            int kind = "sygbt".indexOf(c);
            SnowTerm byKind = pageOf("s1," + c + "1;0");
            due("5: kind " + c, byKind.city(), kind >= 0 ? 2 : STATE);
            due("5: kind " + c + " is told", byKind.about(1, 0), kind >= 0 ? kind : UNKNOWN);
            boolean isWant = c >= '1' && c <= '9';
            SnowTerm byWant = pageOf("s1,s" + c + ";0");
            due("5: want " + c, byWant.city(), isWant ? 2 : STATE);
            due("5: want " + c + " is told", byWant.about(1, 1), isWant ? c - '0' : UNKNOWN);
            boolean isSun = c >= '0' && c <= '9';
            SnowTerm bySun = pageOf("s1,s1;" + c);
            due("5: sun " + c, bySun.city(), isSun ? 2 : STATE);
            due("5: sun " + c + " is told", bySun.count(1), isSun ? c - '0' : 0);
        }
    }

    // "STATE: it is none" and "THE PAGE is empty then"
    private static void onlyAWholePageIsACity() {
        for (int letters = 0; letters <= 18; letters++) {
            SnowTerm x = pageOf(LONGEST.substring(0, letters));
            due("5: city() of " + letters + " letters", x.city(), STATE);
            due("5: the page of " + letters + " stays", x.count(8), letters);
            due("5: no city was read", x.count(9), 0);
            Check.write(x, LONGEST.substring(letters));
            due("5: what is missing makes it one", x.city(), 6);
            due("5: the page is empty then", x.count(8), 0);
            due("5: and is no city", x.city(), STATE);
        }
        due("5: one letter too many", pageOf(LONGEST + "7").city(), STATE);
        due("5: a full page", pageOf(FULL_PAGE).city(), STATE);
    }

    private static SnowTerm usedCity(String text) {
        SnowTerm x = Check.cityOf(text);
        for (int site = 0; site < x.count(0); site++) {
            Check.bringAll(x, site, 30);
            x.tread(site, 9);
        }
        x.image();
        x.day();
        for (int i = 0; i < 6; i++) {
            x.found(1, 30, 0);
        }
        x.bring(0, 9);
        x.sun(9);
        return x;
    }

    // "another one is gone, with all that was", and "then it is DAY 0, no SNOW lies, no FEET tread"
    private static void anotherCityIsGoneWithAllThatWas() {
        for (String text : new String[] {"s9,s9;4", "y3,g3,t3;0", LONGEST}) {
            for (String before : new String[] {"s9,s9;4", LONGEST}) {
                SnowTerm x = usedCity(before);
                Check.write(x, text);
                x.city();
                SnowTerm fresh = Check.cityOf(text);
                String told = before + ", then " + text;
                for (int what = 0; what <= 8; what++) {
                    due("5: count(" + what + ") of " + told, x.count(what), fresh.count(what));
                }
                due("5: count(9) of " + told, x.count(9), 2);
                due("5: restore() of " + told, x.restore(), STATE);
                due("5: the refused restore() of " + told, x.count(3), 0);
                Calls.alike(CHECK, told, x, fresh, "about 0 2; about 0 3; about 0 6; about 1 2; about 1 3; "
                        + "about 1 6; about 2 2; about 5 3; suns; look; error 0; winters 9 9 1; plan 60 1 1; "
                        + "day; bring 0 9; bring 1 5; error 0; error 1; found 0 9 8; suns; image; day; restore");
            }
        }
    }

    // "how often a CITY was read", refused ones not among them
    private static void citiesAreCounted() {
        SnowTerm x = new SnowTerm();
        for (int times = 1; times <= 40; times++) {
            x.city();
            Check.write(x, "s1,s1;0");
            due("5: city()", x.city(), 2);
            due("5: cities read", x.count(9), times);
        }
        due("5: error(0) of a new city", x.error(0), NONE);
    }

    public static void main(String[] args) {
        aNewObjectHasNoCity();
        codesAreFrom32To126();
        aPageHas21Letters();
        blankEmptiesAnyPage();
        faultLooksAtEachPlace();
        faultOfEmptyAndFullPages();
        citiesHaveTwoToSixSites();
        everyKindWantAndSunIsRead();
        onlyAWholePageIsACity();
        anotherCityIsGoneWithAllThatWas();
        citiesAreCounted();
        CHECK.end();
    }
}
