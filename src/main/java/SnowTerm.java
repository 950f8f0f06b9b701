/**
 * Snow by subscription: a city of sites, nights with carts, days that melt and tread, and what can
 * be told of it. The promises that it keeps are numbered in the project's document.
 */
public final class SnowTerm {
    public static final int NONE = -1, UNKNOWN = -101, OUTSIDE = -102, STATE = -103, FULL = -104;

    private static final int YARD = 1, GRAVE = 2, STAND = 3, TOMB = 4;
    private static final int ANY_KIND = 0, LAST_KIND = 4;
    private static final String KIND_LETTERS = "sygbt";

    private static final int FEWEST_SITES = 2, MOST_SITES = 6;
    private static final int MOST_LETTERS = 21, FIRST_CODE = 32, LAST_CODE = 126;
    private static final int DEEPEST = 30, MOST_BROUGHT = 99, MOST_FOUND = 6;
    private static final int STRONGEST_SUN = 9, WINTER_SUNS = 5;

    private final Page page;
    private final int[] kinds;
    private final int[] wants;
    private final Term now;
    private final Term atImage;
    /** The snow of a winter that only would be: one row for all calls, so that none makes its own. */
    private final int[] wouldBe;
    /** What each site needs for the days of a plan, NONE if it cannot be kept: one row, too. */
    private final int[] needs;
    private int sites;
    private int citiesRead;
    private boolean hasImage;

    public SnowTerm() {
        page = new Page();
        kinds = new int[MOST_SITES];
        wants = new int[MOST_SITES];
        now = new Term();
        atImage = new Term();
        wouldBe = new int[MOST_SITES];
        needs = new int[MOST_SITES];
        sites = 0;
        citiesRead = 0;
        hasImage = false;
    }

    // ---- the city

    public int letter(int code) {
        if (!isWithin(code, FIRST_CODE, LAST_CODE)) {
            return OUTSIDE;
        }
        if (!page.add(code)) {
            return FULL;
        }
        return page.size;
    }

    public int blank() {
        return page.clear();
    }

    public int fault() {
        return page.faultPlace();
    }

    public int city() {
        if (!page.isWhole()) {
            return STATE;
        }
        sites = page.siteCount();
        for (int site = 0; site < sites; site++) {
            kinds[site] = page.kindOf(site);
            wants[site] = page.wantOf(site);
        }
        now.begin(page.sunTold());
        hasImage = false;
        citiesRead++;
        page.clear();
        return sites;
    }

    // ---- sites

    public int about(int site, int what) {
        if (!isSite(site)) {
            return UNKNOWN;
        }
        switch (what) {
            case 0: return kinds[site];
            case 1: return wants[site];
            case 2: return now.snow[site];
            case 3: return now.feet[site];
            case 4: return meltsNow(site);
            case 5: return isKeptWith(site, now.snow[site]) ? 1 : 0;
            case 6: return now.brought[site];
            default: return OUTSIDE;
        }
    }

    public int as(int site, int kind) {
        if (!isSite(site)) {
            return UNKNOWN;
        }
        if (!isWithin(kind, ANY_KIND, LAST_KIND)) {
            return OUTSIDE;
        }
        return isOfKind(kinds[site], kind) ? site : NONE;
    }

    public int bring(int site, int loads) {
        if (!isSite(site)) {
            return UNKNOWN;
        }
        if (!isWithin(loads, 1, 9)) {
            return OUTSIDE;
        }
        if (now.brought[site] + loads > MOST_BROUGHT) {
            return FULL;
        }
        now.brought[site] += loads;
        now.snow[site] = deepened(now.snow[site], loads);
        now.cost += loads * priceAt(site);
        return now.snow[site];
    }

    public int tread(int site, int feet) {
        if (!isSite(site)) {
            return UNKNOWN;
        }
        if (!isWithin(feet, 0, 9)) {
            return OUTSIDE;
        }
        int were = now.feet[site];
        now.feet[site] = feet;
        return were;
    }

    public int sun(int sun) {
        if (!isWithin(sun, 0, STRONGEST_SUN)) {
            return OUTSIDE;
        }
        if (sites == 0) {
            return STATE;
        }
        int was = now.sun;
        now.sun = sun;
        return was;
    }

    public int day() {
        if (sites == 0) {
            return STATE;
        }
        int keptAtEnd = meltAll(now.snow, now.sun);
        now.endDay(keptAtEnd);
        return keptAtEnd;
    }

    // ---- what would be

    public int need(int site, int days) {
        if (!isSite(site)) {
            return UNKNOWN;
        }
        if (!isWithin(days, 0, 9)) {
            return OUTSIDE;
        }
        return loadsNeeded(site, days);
    }

    public int plan(int loads, int days, int what) {
        if (!isWithin(loads, 0, 60) || !isWithin(days, 0, 9) || !isWithin(what, 0, 3)) {
            return OUTSIDE;
        }
        if (sites == 0) {
            return STATE;
        }
        tellNeeds(days);
        int bits = bestPlan(loads);
        switch (what) {
            case 0: return Integer.bitCount(bits);
            case 1: return bits;
            case 2: return loadsOf(bits);
            default: return costOf(bits);
        }
    }

    public int error(int what) {
        if (!isWithin(what, 0, 1)) {
            return OUTSIDE;
        }
        if (sites == 0) {
            return STATE;
        }
        int pair = bestError();
        if (pair == NONE || what == 0) {
            return pair;
        }
        return keptIfSwapped(pair / 10, pair % 10);
    }

    // ---- what is found

    public int found(int site, int deep, int left) {
        if (!isSite(site)) {
            return UNKNOWN;
        }
        if (!isWithin(deep, 0, DEEPEST) || !isWithin(left, 0, DEEPEST)) {
            return OUTSIDE;
        }
        if (!now.addFound(kinds[site], now.feet[site], deep, left)) {
            return FULL;
        }
        return now.foundCount;
    }

    public int forget() {
        int were = now.foundCount;
        now.foundCount = 0;
        return were;
    }

    public int suns() {
        if (sites == 0) {
            return STATE;
        }
        return possibleSuns();
    }

    public int look() {
        if (sites == 0) {
            return STATE;
        }
        return bestLook(possibleSuns());
    }

    public int winters(int days, int seed, int what) {
        if (!isWithin(days, 1, 60) || seed < 0 || !isWithin(what, 0, 2)) {
            return OUTSIDE;
        }
        if (sites == 0) {
            return STATE;
        }
        System.arraycopy(now.snow, 0, wouldBe, 0, MOST_SITES);
        int praise = 0;
        int drawn = seed;
        for (int passed = 0; passed < days; passed++) {
            drawn = seedAfter(drawn);
            int winterSun = drawOf(WINTER_SUNS, drawn);
            drawn = seedAfter(drawn);
            bringOneLoad(wouldBe, drawOf(sites, drawn));
            praise += meltAll(wouldBe, winterSun);
        }
        switch (what) {
            case 0: return praise;
            case 1: return snowIn(wouldBe);
            default: return drawn;
        }
    }

    // ---- what is told of all

    public int image() {
        if (sites == 0) {
            return STATE;
        }
        atImage.copy(now);
        hasImage = true;
        return atImage.day;
    }

    public int restore() {
        if (!hasImage) {
            return STATE;
        }
        now.copy(atImage);
        return now.day;
    }

    public int count(int what) {
        switch (what) {
            case 0: return sites;
            case 1: return now.sun;
            case 2: return now.day;
            case 3: return snowIn(now.snow);
            case 4: return keptIn(now.snow);
            case 5: return now.praise;
            case 6: return now.cost;
            case 7: return now.foundCount;
            case 8: return page.size;
            case 9: return citiesRead;
            default: return OUTSIDE;
        }
    }

    public long digest() {
        long h = 1061;
        for (int site = 0; site < sites; site++) {
            for (int what = 0; what <= 6; what++) {
                h = mixed(h, about(site, what));
            }
            h = mixed(h, need(site, 0));
            h = mixed(h, need(site, 1));
            h = mixed(h, need(site, 5));
        }
        if (sites > 0) {
            for (int what = 0; what <= 3; what++) {
                h = mixed(h, plan(20, 2, what));
            }
            h = mixed(h, error(0));
            h = mixed(h, error(1));
            h = mixed(h, suns());
            h = mixed(h, look());
        }
        for (int place = 0; place < page.size; place++) {
            h = mixed(h, page.codeAt(place));
        }
        for (int what = 0; what <= 9; what++) {
            h = mixed(h, count(what));
        }
        return h;
    }

    // ---- numbers

    private static boolean isWithin(int number, int least, int most) {
        return number >= least && number <= most;
    }

    private static boolean hasBit(int bits, int place) {
        return (bits >> place & 1) == 1;
    }

    private static long mixed(long h, int number) {
        return 31L * h + number;
    }

    private static int seedAfter(int seed) {
        return (int) ((1103515245L * seed + 12345L) % 2147483648L);
    }

    private static int drawOf(int many, int seed) {
        return many > 0 ? seed / 65536 % many : 0;
    }

    // ---- kinds and snow

    private boolean isSite(int site) {
        return site >= 0 && site < sites;
    }

    private static boolean isOfKind(int own, int asked) {
        return asked == ANY_KIND || asked == own || asked == GRAVE && own == TOMB;
    }

    private static int melting(int kind, int sun, int feet) {
        int both = sun + feet;
        switch (kind) {
            case YARD: return both > 2 ? both - 2 : 0;
            case GRAVE: return both / 2;
            case STAND: return sun;
            case TOMB: return both > 2 ? both / 2 - 1 : 0;
            default: return both;
        }
    }

    private int meltsNow(int site) {
        return melting(kinds[site], now.sun, now.feet[site]);
    }

    private static int deepened(int deep, int loads) {
        return Math.min(DEEPEST, deep + loads);
    }

    private static int leftOf(int deep, int melted) {
        return deep > melted ? deep - melted : 0;
    }

    private static int priceAt(int site) {
        return site + 1;
    }

    private boolean isKeptWith(int site, int deep) {
        return deep >= wants[site];
    }

    private int keptIn(int[] snow) {
        int many = 0;
        for (int site = 0; site < sites; site++) {
            if (isKeptWith(site, snow[site])) {
                many++;
            }
        }
        return many;
    }

    private int snowIn(int[] snow) {
        int sum = 0;
        for (int site = 0; site < sites; site++) {
            sum += snow[site];
        }
        return sum;
    }

    private void bringOneLoad(int[] snow, int site) {
        if (isSite(site)) {
            snow[site] = deepened(snow[site], 1);
        }
    }

    /** A day over a row of snow, with the feet of now: how many sites are kept in its end. */
    private int meltAll(int[] snow, int sun) {
        for (int site = 0; site < sites; site++) {
            snow[site] = leftOf(snow[site], melting(kinds[site], sun, now.feet[site]));
        }
        return keptIn(snow);
    }

    // ---- need and plan

    /** Snow only ever melts by day, so a site kept in the end of the last day was kept on each. */
    private int loadsNeeded(int site, int days) {
        int deepEnough = wants[site] + days * meltsNow(site);
        return deepEnough > DEEPEST ? NONE : Math.max(0, deepEnough - now.snow[site]);
    }

    private void tellNeeds(int days) {
        for (int site = 0; site < sites; site++) {
            needs[site] = loadsNeeded(site, days);
        }
    }

    /** By rising bits, so that of plans alike in number and cost the least bits stay. */
    private int bestPlan(int loads) {
        int best = 0;
        for (int bits = 1; bits < 1 << sites; bits++) {
            int wanted = loadsOf(bits);
            if (wanted != NONE && wanted <= loads && isBetterPlan(bits, best)) {
                best = bits;
            }
        }
        return best;
    }

    private boolean isBetterPlan(int bits, int best) {
        int more = Integer.bitCount(bits) - Integer.bitCount(best);
        return more > 0 || more == 0 && costOf(bits) < costOf(best);
    }

    /** NONE, if a site of these cannot be kept so long. */
    private int loadsOf(int bits) {
        int sum = 0;
        for (int site = 0; site < sites; site++) {
            if (hasBit(bits, site)) {
                if (needs[site] == NONE) {
                    return NONE;
                }
                sum += needs[site];
            }
        }
        return sum;
    }

    private int costOf(int bits) {
        int sum = 0;
        for (int site = 0; site < sites; site++) {
            if (hasBit(bits, site)) {
                sum += needs[site] * priceAt(site);
            }
        }
        return sum;
    }

    // ---- the clerk's error

    /** By rising pairs, so that of like ones the least stays. */
    private int bestError() {
        int best = NONE;
        int most = keptIn(now.snow);
        for (int lesser = 0; lesser < sites; lesser++) {
            for (int greater = lesser + 1; greater < sites; greater++) {
                int many = keptIfSwapped(lesser, greater);
                if (many > most) {
                    most = many;
                    best = 10 * lesser + greater;
                }
            }
        }
        return best;
    }

    private int keptIfSwapped(int lesser, int greater) {
        int many = 0;
        for (int site = 0; site < sites; site++) {
            int deep = now.snow[site];
            if (site == lesser) {
                deep = deepWithLoadsOf(site, greater);
            } else if (site == greater) {
                deep = deepWithLoadsOf(site, lesser);
            }
            if (isKeptWith(site, deep)) {
                many++;
            }
        }
        return many;
    }

    private int deepWithLoadsOf(int site, int other) {
        if (!isSite(site) || !isSite(other)) {
            return 0;
        }
        return deepened(now.snowAtDusk[site], now.brought[other]);
    }

    // ---- suns

    private int possibleSuns() {
        int bits = 0;
        for (int sun = 0; sun <= STRONGEST_SUN; sun++) {
            if (explainsAllFound(sun)) {
                bits |= 1 << sun;
            }
        }
        return bits;
    }

    private boolean explainsAllFound(int sun) {
        for (int i = 0; i < now.foundCount; i++) {
            int melted = melting(now.foundKind[i], sun, now.foundFeet[i]);
            if (leftOf(now.foundDeep[i], melted) != now.foundLeft[i]) {
                return false;
            }
        }
        return true;
    }

    private int bestLook(int suns) {
        if (suns == 0) {
            return NONE;
        }
        int best = 0;
        for (int site = 1; site < sites; site++) {
            if (sunsLeftAtWorst(site, suns) < sunsLeftAtWorst(best, suns)) {
                best = site;
            }
        }
        return best;
    }

    /** Of these suns the most that would leave the same snow at the site. */
    private int sunsLeftAtWorst(int site, int suns) {
        int worst = 0;
        for (int sun = 0; sun <= STRONGEST_SUN; sun++) {
            if (hasBit(suns, sun)) {
                worst = Math.max(worst, sunsLikeThis(site, sun, suns));
            }
        }
        return worst;
    }

    private int sunsLikeThis(int site, int sun, int suns) {
        int left = leftOfDeepest(site, sun);
        int many = 0;
        for (int other = 0; other <= STRONGEST_SUN; other++) {
            if (hasBit(suns, other) && leftOfDeepest(site, other) == left) {
                many++;
            }
        }
        return many;
    }

    private int leftOfDeepest(int site, int sun) {
        if (!isSite(site)) {
            return 0;
        }
        return leftOf(DEEPEST, melting(kinds[site], sun, now.feet[site]));
    }

    /** The text that is to become a city, and what a city's text looks like. */
    private static final class Page {
        private static final int LETTERS_A_SITE = 3;

        final int[] codes;
        int size;

        Page() {
            codes = new int[MOST_LETTERS];
            size = 0;
        }

        boolean add(int code) {
            if (size < 0 || size >= codes.length) {
                return false;
            }
            codes[size] = code;
            size++;
            return true;
        }

        int clear() {
            int had = size;
            size = 0;
            return had;
        }

        int faultPlace() {
            int semicolon = NONE;
            for (int place = 0; place < size; place++) {
                boolean fits = semicolon == NONE
                        ? fitsAmongSites(place)
                        : place == semicolon + 1 && isDigitFrom('0', place);
                if (!fits) {
                    return place;
                }
                if (codeAt(place) == ';') {
                    semicolon = place;
                }
            }
            return size;
        }

        /** Without a fault a ';' can only stand ahead of the sun, so one there makes it whole. */
        boolean isWhole() {
            return size >= 2 && faultPlace() == size && codeAt(size - 2) == ';';
        }

        int siteCount() {
            return (size - 1) / LETTERS_A_SITE;
        }

        int kindOf(int site) {
            return kindAt(site * LETTERS_A_SITE);
        }

        int wantOf(int site) {
            return digitAt(site * LETTERS_A_SITE + 1);
        }

        int sunTold() {
            return digitAt(size - 1);
        }

        private boolean fitsAmongSites(int place) {
            switch (place % LETTERS_A_SITE) {
                case 0: return kindAt(place) >= 0;
                case 1: return isDigitFrom('1', place);
                default: return fitsBehindSites(place, place / LETTERS_A_SITE + 1);
            }
        }

        private boolean fitsBehindSites(int place, int sitesAhead) {
            int code = codeAt(place);
            return code == ',' && sitesAhead < MOST_SITES || code == ';' && sitesAhead >= FEWEST_SITES;
        }

        private boolean isDigitFrom(char least, int place) {
            return isWithin(codeAt(place), least, '9');
        }

        private int digitAt(int place) {
            return codeAt(place) - '0';
        }

        private int kindAt(int place) {
            return KIND_LETTERS.indexOf((char) codeAt(place));
        }

        int codeAt(int place) {
            return place >= 0 && place < codes.length ? codes[place] : 0;
        }
    }

    /** All that changes in a city, which is just what an image keeps. */
    private static final class Term {
        int day;
        int sun;
        int cost;
        int praise;
        final int[] snow;
        /** The snow in the end of the last day: the cap may hide it in what lies now. */
        final int[] snowAtDusk;
        final int[] feet;
        final int[] brought;
        /** The kind and the feet as they were when it was found: later feet do not change it. */
        final int[] foundKind;
        final int[] foundFeet;
        final int[] foundDeep;
        final int[] foundLeft;
        int foundCount;

        Term() {
            snow = new int[MOST_SITES];
            snowAtDusk = new int[MOST_SITES];
            feet = new int[MOST_SITES];
            brought = new int[MOST_SITES];
            foundKind = new int[MOST_FOUND];
            foundFeet = new int[MOST_FOUND];
            foundDeep = new int[MOST_FOUND];
            foundLeft = new int[MOST_FOUND];
        }

        void begin(int sunTold) {
            day = 0;
            sun = sunTold;
            cost = 0;
            praise = 0;
            foundCount = 0;
            for (int site = 0; site < MOST_SITES; site++) {
                snow[site] = 0;
                snowAtDusk[site] = 0;
                feet[site] = 0;
                brought[site] = 0;
            }
        }

        void endDay(int keptAtEnd) {
            day++;
            praise += keptAtEnd;
            for (int site = 0; site < MOST_SITES; site++) {
                snowAtDusk[site] = snow[site];
                brought[site] = 0;
            }
        }

        boolean addFound(int kind, int feetThere, int deep, int left) {
            if (foundCount < 0 || foundCount >= MOST_FOUND) {
                return false;
            }
            foundKind[foundCount] = kind;
            foundFeet[foundCount] = feetThere;
            foundDeep[foundCount] = deep;
            foundLeft[foundCount] = left;
            foundCount++;
            return true;
        }

        void copy(Term other) {
            day = other.day;
            sun = other.sun;
            cost = other.cost;
            praise = other.praise;
            foundCount = other.foundCount;
            copyRow(other.snow, snow);
            copyRow(other.snowAtDusk, snowAtDusk);
            copyRow(other.feet, feet);
            copyRow(other.brought, brought);
            copyRow(other.foundKind, foundKind);
            copyRow(other.foundFeet, foundFeet);
            copyRow(other.foundDeep, foundDeep);
            copyRow(other.foundLeft, foundLeft);
        }

        private static void copyRow(int[] from, int[] to) {
            System.arraycopy(from, 0, to, 0, Math.min(from.length, to.length));
        }
    }
}
