import java.util.ArrayList;
import java.util.HashMap;
import java.util.List;
import java.util.Map;
import java.util.regex.Matcher;
import java.util.regex.Pattern;

/**
 * The document once more, by other means than the class: the page is matched by a pattern, needs
 * and winters are lived through day by day, plans and errors are tried out on copies.
 */
final class PlainModel {
    private static final int NONE = -1, UNKNOWN = -101, OUTSIDE = -102, STATE = -103, FULL = -104;
    private static final Pattern CITY =
            Pattern.compile("[sygbt][1-9](,[sygbt][1-9]){1,5};[0-9]");

    private static final class Place implements Cloneable {
        char kind;
        int want;
        int snow;
        int evening;
        int feet;
        int brought;

        int melts(int sun) {
            int all = sun + feet;
            if (kind == 'b') {
                return sun;
            }
            if (kind == 'y') {
                return all < 2 ? 0 : all - 2;
            }
            int half = (all - all % 2) / 2;
            if (kind == 'g') {
                return half;
            }
            if (kind == 't') {
                return half == 0 ? 0 : half - 1;
            }
            return all;
        }

        void live(int sun) {
            for (int i = melts(sun); i > 0 && snow > 0; i--) {
                snow--;
            }
        }

        void load(int loads) {
            for (int i = 0; i < loads && snow < 30; i++) {
                snow++;
            }
        }

        boolean kept() {
            return snow >= want;
        }

        Place copy() {
            try {
                return (Place) clone();
            } catch (CloneNotSupportedException e) {
                throw new IllegalStateException(e);
            }
        }
    }

    /** What was found: the place as it was then, with the snow that lay there, and what was left. */
    private record Finding(Place then, int left) { }

    private static final class World {
        int sun;
        int day;
        int cost;
        int praise;
        final List<Place> places = new ArrayList<>();
        final List<Finding> findings = new ArrayList<>();

        World copy() {
            World w = new World();
            w.sun = sun;
            w.day = day;
            w.cost = cost;
            w.praise = praise;
            for (Place p : places) {
                w.places.add(p.copy());
            }
            w.findings.addAll(findings);
            return w;
        }

        int kept() {
            return (int) places.stream().filter(Place::kept).count();
        }

        int snow() {
            return places.stream().mapToInt(p -> p.snow).sum();
        }
    }

    private String page = "";
    private World world = new World();
    private World image;
    private int read;

    private boolean none() {
        return world.places.isEmpty();
    }

    private Place at(int site) {
        return site < 0 || site >= world.places.size() ? null : world.places.get(site);
    }

    private static boolean out(int number, int least, int most) {
        return number < least || number > most;
    }

    int letter(int code) {
        if (out(code, 32, 126)) {
            return OUTSIDE;
        }
        if (page.length() == 21) {
            return FULL;
        }
        page += (char) code;
        return page.length();
    }

    int blank() {
        int had = page.length();
        page = "";
        return had;
    }

    int fault() {
        for (int i = 1; i <= page.length(); i++) {
            Matcher m = CITY.matcher(page.substring(0, i));
            if (!m.matches() && !m.hitEnd()) {
                return i - 1;
            }
        }
        return page.length();
    }

    int city() {
        if (!CITY.matcher(page).matches()) {
            return STATE;
        }
        world = new World();
        String[] halves = page.split(";");
        for (String told : halves[0].split(",")) {
            Place p = new Place();
            p.kind = told.charAt(0);
            p.want = told.charAt(1) - '0';
            world.places.add(p);
        }
        world.sun = Integer.parseInt(halves[1]);
        image = null;
        page = "";
        read++;
        return world.places.size();
    }

    int about(int site, int what) {
        Place p = at(site);
        if (p == null) {
            return UNKNOWN;
        }
        if (out(what, 0, 6)) {
            return OUTSIDE;
        }
        return new int[] {"sygbt".indexOf(p.kind), p.want, p.snow, p.feet, p.melts(world.sun),
            p.kept() ? 1 : 0, p.brought}[what];
    }

    int as(int site, int kind) {
        Place p = at(site);
        if (p == null) {
            return UNKNOWN;
        }
        if (out(kind, 0, 4)) {
            return OUTSIDE;
        }
        String[] takenFrom = {"sygbt", "y", "gt", "b", "t"};
        return takenFrom[kind].indexOf(p.kind) >= 0 ? site : NONE;
    }

    int bring(int site, int loads) {
        Place p = at(site);
        if (p == null) {
            return UNKNOWN;
        }
        if (out(loads, 1, 9)) {
            return OUTSIDE;
        }
        if (p.brought + loads > 99) {
            return FULL;
        }
        p.load(loads);
        p.brought += loads;
        world.cost += loads + loads * site;
        return p.snow;
    }

    int tread(int site, int feet) {
        Place p = at(site);
        if (p == null) {
            return UNKNOWN;
        }
        if (out(feet, 0, 9)) {
            return OUTSIDE;
        }
        int were = p.feet;
        p.feet = feet;
        return were;
    }

    int sun(int sun) {
        if (out(sun, 0, 9)) {
            return OUTSIDE;
        }
        if (none()) {
            return STATE;
        }
        int was = world.sun;
        world.sun = sun;
        return was;
    }

    int day() {
        if (none()) {
            return STATE;
        }
        for (Place p : world.places) {
            p.live(world.sun);
            p.evening = p.snow;
            p.brought = 0;
        }
        world.day++;
        world.praise += world.kept();
        return world.kept();
    }

    int need(int site, int days) {
        Place p = at(site);
        if (p == null) {
            return UNKNOWN;
        }
        if (out(days, 0, 9)) {
            return OUTSIDE;
        }
        for (int loads = 0; loads <= 30; loads++) {
            Place would = p.copy();
            would.load(loads);
            boolean kept = days > 0 || would.kept();
            for (int d = 0; d < days; d++) {
                would.live(world.sun);
                kept &= would.kept();
            }
            if (kept) {
                return loads;
            }
        }
        return NONE;
    }

    /** All plans, grown site by site; the order of the document decides between them. */
    int plan(int loads, int days, int what) {
        if (out(loads, 0, 60) || out(days, 0, 9) || out(what, 0, 3)) {
            return OUTSIDE;
        }
        if (none()) {
            return STATE;
        }
        List<int[]> plans = new ArrayList<>();
        plans.add(new int[4]);
        for (int site = 0; site < world.places.size(); site++) {
            int needs = need(site, days);
            for (int i = plans.size() - 1; i >= 0 && needs != NONE; i--) {
                int[] p = plans.get(i);
                if (p[2] + needs <= loads) {
                    plans.add(new int[] {p[0] + 1, p[1] + (1 << site), p[2] + needs,
                        p[3] + needs * (site + 1)});
                }
            }
        }
        plans.sort((p, q) -> p[0] != q[0] ? q[0] - p[0] : p[3] != q[3] ? p[3] - q[3] : p[1] - q[1]);
        return plans.get(0)[what];
    }

    int error(int what) {
        if (out(what, 0, 1)) {
            return OUTSIDE;
        }
        if (none()) {
            return STATE;
        }
        int best = NONE;
        int most = world.kept();
        for (int both = 0; both <= 99; both++) {
            int one = both / 10;
            int other = both % 10;
            if (one >= other || at(other) == null) {
                continue;
            }
            World would = world.copy();
            would.places.get(one).snow = at(one).evening;
            would.places.get(one).load(at(other).brought);
            would.places.get(other).snow = at(other).evening;
            would.places.get(other).load(at(one).brought);
            if (would.kept() > most) {
                most = would.kept();
                best = both;
            }
        }
        return best == NONE ? NONE : what == 0 ? best : most;
    }

    int found(int site, int deep, int left) {
        Place p = at(site);
        if (p == null) {
            return UNKNOWN;
        }
        if (out(deep, 0, 30) || out(left, 0, 30)) {
            return OUTSIDE;
        }
        if (world.findings.size() >= 6) {
            return FULL;
        }
        Place then = p.copy();
        then.snow = deep;
        world.findings.add(new Finding(then, left));
        return world.findings.size();
    }

    int forget() {
        int were = world.findings.size();
        world.findings.clear();
        return were;
    }

    private static int leftAfter(Place place, int sun) {
        Place would = place.copy();
        would.live(sun);
        return would.snow;
    }

    int suns() {
        if (none()) {
            return STATE;
        }
        int bits = 0;
        for (int s = 9; s >= 0; s--) {
            int sun = s;
            boolean all = world.findings.stream()
                    .allMatch(f -> leftAfter(f.then(), sun) == f.left());
            bits = bits * 2 + (all ? 1 : 0);
        }
        return bits;
    }

    int look() {
        if (none()) {
            return STATE;
        }
        int best = NONE;
        int fewest = 0;
        for (int site = 0; site < world.places.size(); site++) {
            Map<Integer, Integer> byLeft = new HashMap<>();
            Place would = at(site).copy();
            would.snow = 30;
            for (int sun = 0; sun <= 9; sun++) {
                if ((suns() & 1 << sun) != 0) {
                    byLeft.merge(leftAfter(would, sun), 1, Integer::sum);
                }
            }
            int worst = byLeft.values().stream().mapToInt(n -> n).max().orElse(0);
            if (worst > 0 && (best == NONE || worst < fewest)) {
                best = site;
                fewest = worst;
            }
        }
        return best;
    }

    private static long next(long seed) {
        return Math.floorMod(1103515245L * seed + 12345L, 1L << 31);
    }

    int winters(int days, int seed, int what) {
        if (out(days, 1, 60) || seed < 0 || out(what, 0, 2)) {
            return OUTSIDE;
        }
        if (none()) {
            return STATE;
        }
        World would = world.copy();
        would.praise = 0;
        long s = seed;
        for (int d = 0; d < days; d++) {
            s = next(s);
            int sun = (int) ((s >> 16) % 5);
            s = next(s);
            would.places.get((int) ((s >> 16) % would.places.size())).load(1);
            for (Place p : would.places) {
                p.live(sun);
            }
            would.praise += would.kept();
        }
        return what == 0 ? would.praise : what == 1 ? would.snow() : (int) s;
    }

    int image() {
        if (none()) {
            return STATE;
        }
        image = world.copy();
        return world.day;
    }

    int restore() {
        if (image == null) {
            return STATE;
        }
        world = image.copy();
        return world.day;
    }

    int count(int what) {
        if (out(what, 0, 9)) {
            return OUTSIDE;
        }
        return new int[] {world.places.size(), world.sun, world.day, world.snow(), world.kept(),
            world.praise, world.cost, world.findings.size(), page.length(), read}[what];
    }

    long digest() {
        List<Integer> all = new ArrayList<>();
        for (int site = 0; site < world.places.size(); site++) {
            for (int what = 0; what < 7; what++) {
                all.add(about(site, what));
            }
            all.addAll(List.of(need(site, 0), need(site, 1), need(site, 5)));
        }
        if (!none()) {
            all.addAll(List.of(plan(20, 2, 0), plan(20, 2, 1), plan(20, 2, 2), plan(20, 2, 3)));
            all.addAll(List.of(error(0), error(1), suns(), look()));
        }
        page.chars().forEach(all::add);
        for (int what = 0; what < 10; what++) {
            all.add(count(what));
        }
        long h = 1061;
        for (int number : all) {
            h = h * 31 + number;
        }
        return h;
    }
}
