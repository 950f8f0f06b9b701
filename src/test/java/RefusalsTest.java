import java.util.ArrayList;
import java.util.List;
import java.util.Set;
import java.util.TreeSet;

/**
 * Each call with each argument far below, just below, at and just above its bounds, in all
 * combinations and in several states: which refusal is told (of several the first as told by the
 * call), and that a refused call, like one that only asks, changes nothing.
 */
public final class RefusalsTest {
    private static final int UNKNOWN = -101, OUTSIDE = -102, STATE = -103, FULL = -104;
    private static final int TAKEN = 0;
    private static final Check CHECK = new Check("RefusalsTest");

    /** An argument is taken from least to most; of a site, the most is known only with the city. */
    private record Bound(int refusal, int least, int most) { }

    private record Row(String call, boolean asksOnly, boolean needsCity, Bound... bounds) { }

    private static final Bound SITE = new Bound(UNKNOWN, 0, -1);

    private static Bound from(int least, int most) {
        return new Bound(OUTSIDE, least, most);
    }

    private static final Row[] ROWS = {
        new Row("letter", false, false, from(32, 126)),
        new Row("fault", true, false),
        new Row("about", true, false, SITE, from(0, 6)),
        new Row("as", true, false, SITE, from(0, 4)),
        new Row("bring", false, false, SITE, from(1, 9)),
        new Row("tread", false, false, SITE, from(0, 9)),
        new Row("sun", false, true, from(0, 9)),
        new Row("day", false, true),
        new Row("need", true, false, SITE, from(0, 9)),
        new Row("plan", true, true, from(0, 60), from(0, 9), from(0, 3)),
        new Row("error", true, true, from(0, 1)),
        new Row("found", false, false, SITE, from(0, 30), from(0, 30)),
        new Row("forget", false, false),
        new Row("suns", true, true),
        new Row("look", true, true),
        new Row("winters", true, true, from(1, 60), from(0, Integer.MAX_VALUE), from(0, 2)),
        new Row("image", false, true),
        new Row("count", true, false, from(0, 9)),
        new Row("digest", true, false),
    };

    /**
     * A state, by the text read as the city (or none), the text on the page and the calls between;
     * it is full, if the page, what is found and what was brought to any site take no more.
     */
    private record Scene(String name, String city, String page, String calls, int sites,
            boolean isFull, boolean hasImage) {

        SnowTerm made() {
            SnowTerm x = new SnowTerm();
            Check.write(x, city);
            x.city();
            Calls.run(x, calls);
            Check.write(x, page);
            return x;
        }
    }

    private static String times(int n, String calls) {
        return (calls + ";").repeat(n);
    }

    private static String allFull() {
        StringBuilder calls = new StringBuilder("bring 0 9; tread 1 4; image; day; found 1 9 3; found 2 9 8;");
        for (int site = 0; site < 6; site++) {
            calls.append(times(11, "bring " + site + " 9"));
        }
        return calls.append("image; tread 1 0;").append(times(4, "found 0 9 9")).toString();
    }

    private static final Scene[] SCENES = {
        new Scene("a new object", "", "", "", 0, false, false),
        new Scene("no city, a full page", "", "s1,s1;1 and more here", "", 0, true, false),
        new Scene("no city, a page that is nearly one", "", "s1,s1;", "", 0, false, false),
        new Scene("a new city", "s2,t3;1", "", "", 2, false, false),
        new Scene("a city in which all is full", "s9,y3,g2,b1,t4,s1;2", "t1,t1;1 and more here", allFull(), 6,
                true, true),
        new Scene("a city in its third day", "y2,g3,b4;1", "s1,",
                "bring 0 9; bring 2 7; tread 2 3; day; image; bring 1 4; found 0 5 5; day; bring 2 2", 3,
                false, true),
    };

    /** What can be told of all, and then what can be done: at the end the city itself is another. */
    private static final String ALL_THAT_CAN_BE_SEEN = "digest; fault; "
            + "about 0 2; about 1 2; about 2 2; winters 9 5 0; winters 9 5 1; error 0; error 1; plan 60 0 1; "
            + "letter 59; digest; letter 49; fault; day; digest; bring 0 1; bring 1 9; error 0; found 0 6 4; "
            + "suns; look; digest; day; digest; restore; digest; error 0; suns; look; day; digest; restore; "
            + "tread 1 2; bring 1 5; error 0; digest; image; forget; digest; restore; digest; "
            + "city; digest; blank; letter 115; letter 50; letter 44; letter 103; letter 51; letter 59; "
            + "letter 53; city; digest; restore; day; digest; image; restore; digest";

    private static Bound in(Scene scene, Bound bound) {
        return bound == SITE ? new Bound(UNKNOWN, 0, scene.sites - 1) : bound;
    }

    private static List<Integer> edgesOf(Bound bound) {
        Set<Integer> edges = new TreeSet<>(List.of(Integer.MIN_VALUE, bound.least - 1, bound.least,
                Integer.MAX_VALUE));
        edges.add(bound.most);
        edges.add(bound.most + 1);
        return new ArrayList<>(edges);
    }

    private static int refusalOf(Scene scene, Row row, int[] a) {
        for (int i = 0; i < a.length; i++) {
            Bound bound = in(scene, row.bounds[i]);
            if (a[i] < bound.least || a[i] > bound.most) {
                return bound.refusal;
            }
        }
        if (row.needsCity && scene.sites == 0) {
            return STATE;
        }
        boolean canBeFull = Set.of("letter", "bring", "found").contains(row.call);
        return canBeFull && scene.isFull ? FULL : TAKEN;
    }

    private static void tryCall(Scene scene, Row row, int[] a) {
        SnowTerm x = scene.made();
        int refusal = refusalOf(scene, row, a);
        long got = Calls.answer(x, row.call, a);
        String told = Calls.told(row.call, a) + " in " + scene.name;
        if (refusal == TAKEN) {
            boolean isRefusal = got <= UNKNOWN && got >= FULL;
            CHECK.due(told + " is refused: " + got, isRefusal ? 1 : 0, 0);
        } else {
            CHECK.due(told, got, refusal);
        }
        if (refusal != TAKEN || row.asksOnly) {
            Calls.alike(CHECK, told, x, scene.made(), ALL_THAT_CAN_BE_SEEN);
        }
    }

    private static void tryEdges(Scene scene, Row row, int[] a, int place) {
        if (place == a.length) {
            tryCall(scene, row, a);
            return;
        }
        for (int edge : edgesOf(in(scene, row.bounds[place]))) {
            a[place] = edge;
            tryEdges(scene, row, a, place + 1);
        }
    }

    /** The two whose refusals go by what is on the page, and by what was kept. */
    private static void tryCityAndRestore(Scene scene) {
        SnowTerm x = scene.made();
        CHECK.due("city() in " + scene.name, x.city(), STATE);
        Calls.alike(CHECK, "city() in " + scene.name, x, scene.made(), ALL_THAT_CAN_BE_SEEN);
        x = scene.made();
        if (scene.hasImage) {
            CHECK.due("restore() in " + scene.name + " is refused", x.restore() < 0 ? 1 : 0, 0);
        } else {
            CHECK.due("restore() in " + scene.name, x.restore(), STATE);
            Calls.alike(CHECK, "restore() in " + scene.name, x, scene.made(), ALL_THAT_CAN_BE_SEEN);
        }
    }

    public static void main(String[] args) {
        for (Scene scene : SCENES) {
            for (Row row : ROWS) {
                tryEdges(scene, row, new int[row.bounds.length], 0);
            }
            tryCityAndRestore(scene);
        }
        CHECK.end();
    }
}
