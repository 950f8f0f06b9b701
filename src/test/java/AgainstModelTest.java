import java.util.ArrayDeque;
import java.util.Deque;
import java.util.Random;

/** Long runs of calls, drawn by a fixed seed, whose every answer the plain model gives too. */
public final class AgainstModelTest {
    private static final int RUNS = 600;
    /** The document promises 512 calls of an object; one step makes five at most. */
    private static final int LAST_STEP_BY = 512 - 5;
    private static final int[] STRANGE = {Integer.MIN_VALUE, Integer.MAX_VALUE, -1, -7, 31, 61, 100};

    private static final Check CHECK = new Check("AgainstModelTest");
    private final Random random;
    private final SnowTerm x = new SnowTerm();
    private final PlainModel m = new PlainModel();
    private final Deque<Character> toWrite = new ArrayDeque<>();
    /** Strong suns leave little kept, so some runs keep them weak. */
    private final int strongest;
    private int calls;

    private AgainstModelTest(int run) {
        random = new Random(run);
        strongest = run % 3 == 0 ? 9 : 3;
    }

    private void due(String call, long got, long want) {
        calls++;
        CHECK.due(call, got, want);
    }

    /** Most often within the bounds, sometimes just beside them, seldom far out. */
    private int near(int least, int most) {
        int way = random.nextInt(40);
        if (way == 0) {
            return STRANGE[random.nextInt(STRANGE.length)];
        }
        if (way <= 2) {
            return way == 1 ? least - 1 : most + 1;
        }
        return least + random.nextInt(most - least + 1);
    }

    private String cityText() {
        StringBuilder text = new StringBuilder();
        int sites = 2 + random.nextInt(5);
        for (int i = 0; i < sites; i++) {
            text.append(i == 0 ? "" : ",").append("sygbt".charAt(random.nextInt(5)));
            text.append(1 + random.nextInt(9));
        }
        text.append(';').append(random.nextInt(strongest + 1));
        if (random.nextInt(3) == 0) {
            String signs = "sygbtxS,;0159 :/";
            text.setCharAt(random.nextInt(text.length()), signs.charAt(random.nextInt(16)));
        }
        if (random.nextInt(12) == 0) {
            text.append("7;,");
        }
        return text.toString();
    }

    private int site() {
        return near(0, Math.max(1, m.count(0) - 1));
    }

    private void write() {
        if (toWrite.isEmpty()) {
            for (char c : cityText().toCharArray()) {
                toWrite.add(c);
            }
        }
        int code = toWrite.remove();
        due("letter(" + code + ")", x.letter(code), m.letter(code));
        due("fault()", x.fault(), m.fault());
        if (toWrite.isEmpty()) {
            due("city()", x.city(), m.city());
            due("blank()", x.blank(), m.blank());
        }
    }

    private void change() {
        int s = site();
        int n = near(0, 9);
        switch (random.nextInt(16)) {
            case 0, 1, 2, 3, 4: due("bring(" + s + ", " + n + ")", x.bring(s, n), m.bring(s, n)); break;
            case 5, 6: due("tread(" + s + ", " + n / 2 + ")", x.tread(s, n / 2), m.tread(s, n / 2)); break;
            case 7: n = near(0, strongest); due("sun(" + n + ")", x.sun(n), m.sun(n)); break;
            case 8: due("day()", x.day(), m.day()); break;
            case 9, 10, 11: find(s); break;
            case 12: due("forget()", x.forget(), m.forget()); break;
            case 13: due("image()", x.image(), m.image()); break;
            case 14: due("restore()", x.restore(), m.restore()); break;
            default: n = near(32, 126); due("letter(" + n + ")", x.letter(n), m.letter(n)); break;
        }
    }

    private void find(int s) {
        int deep = near(0, 30);
        int left = random.nextInt(3) == 0 ? near(0, 30) : Math.max(0, deep - random.nextInt(4));
        due("found(" + s + ", " + deep + ", " + left + ")",
                x.found(s, deep, left), m.found(s, deep, left));
    }

    private void ask() {
        int s = site();
        int n = near(0, 9);
        int d = near(0, 9);
        switch (random.nextInt(10)) {
            case 0: due("about(" + s + ", " + n + ")", x.about(s, n), m.about(s, n)); break;
            case 1: due("as(" + s + ", " + n / 2 + ")", x.as(s, n / 2), m.as(s, n / 2)); break;
            case 2: due("need(" + s + ", " + n + ")", x.need(s, n), m.need(s, n)); break;
            case 3: s = near(0, 60); n = near(0, 3);
                due("plan(" + s + ", " + d + ", " + n + ")", x.plan(s, d, n), m.plan(s, d, n)); break;
            case 4: n = near(0, 1); due("error(" + n + ")", x.error(n), m.error(n)); break;
            case 5: due("suns()", x.suns(), m.suns()); break;
            case 6: due("look()", x.look(), m.look()); break;
            case 7: d = near(1, 60); s = near(0, Integer.MAX_VALUE - 1); n = near(0, 2);
                due("winters(" + d + ", " + s + ", " + n + ")", x.winters(d, s, n), m.winters(d, s, n)); break;
            case 8: due("count(" + n + ")", x.count(n), m.count(n)); break;
            default: due("fault()", x.fault(), m.fault()); break;
        }
    }

    private void live() {
        int writing = 1;
        while (calls <= LAST_STEP_BY && CHECK.isClean()) {
            if (writing > 0 || !toWrite.isEmpty()) {
                write();
                writing--;
            } else {
                writing = random.nextInt(120) == 0 ? 1 : 0;
                if (random.nextBoolean()) {
                    change();
                } else {
                    ask();
                }
            }
            due("digest()", x.digest(), m.digest());
        }
    }

    public static void main(String[] args) {
        for (int run = 0; run < RUNS && CHECK.isClean(); run++) {
            new AgainstModelTest(run).live();
            if (!CHECK.isClean()) {
                System.out.println("in run " + run);
            }
        }
        CHECK.end();
    }
}
