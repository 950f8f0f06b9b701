/** Calls of the face by their names, so that tests can hold them in tables. */
final class Calls {
    private Calls() { }

    static long answer(SnowTerm x, String call, int... a) {
        switch (call) {
            case "letter": return x.letter(a[0]);
            case "blank": return x.blank();
            case "fault": return x.fault();
            case "city": return x.city();
            case "about": return x.about(a[0], a[1]);
            case "as": return x.as(a[0], a[1]);
            case "bring": return x.bring(a[0], a[1]);
            case "tread": return x.tread(a[0], a[1]);
            case "sun": return x.sun(a[0]);
            case "day": return x.day();
            case "need": return x.need(a[0], a[1]);
            case "plan": return x.plan(a[0], a[1], a[2]);
            case "error": return x.error(a[0]);
            case "found": return x.found(a[0], a[1], a[2]);
            case "forget": return x.forget();
            case "suns": return x.suns();
            case "look": return x.look();
            case "winters": return x.winters(a[0], a[1], a[2]);
            case "image": return x.image();
            case "restore": return x.restore();
            case "count": return x.count(a[0]);
            case "digest": return x.digest();
            default: throw new IllegalArgumentException(call);
        }
    }

    static String told(String call, int... a) {
        StringBuilder text = new StringBuilder(call).append('(');
        for (int i = 0; i < a.length; i++) {
            text.append(i == 0 ? "" : ", ").append(a[i]);
        }
        return text.append(')').toString();
    }

    /** Calls written as "bring 0 9; day", one after the other. */
    static void run(SnowTerm x, String script) {
        for (String one : script.split(";")) {
            String[] words = one.trim().split(" +");
            if (!words[0].isEmpty()) {
                answer(x, words[0], argumentsOf(words));
            }
        }
    }

    /** The same calls on both, whose answers must be alike: what was done to the first left no trace. */
    static void alike(Check check, String after, SnowTerm x, SnowTerm twin, String script) {
        for (String one : script.split(";")) {
            String[] words = one.trim().split(" +");
            if (!words[0].isEmpty()) {
                int[] a = argumentsOf(words);
                check.due(told(words[0], a) + " after " + after,
                        answer(x, words[0], a), answer(twin, words[0], a));
            }
        }
    }

    private static int[] argumentsOf(String[] words) {
        int[] a = new int[words.length - 1];
        for (int i = 0; i < a.length; i++) {
            a[i] = Integer.parseInt(words[i + 1]);
        }
        return a;
    }
}
