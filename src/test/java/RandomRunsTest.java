import java.util.TreeMap;

/**
 * Runs of 500 calls, some with wrong arguments, on ArrowField and on PlainField side by side: all promises at once.
 * The numbers come from a fixed row, so every run is the same each time.
 */
public final class RandomRunsTest {
    private static final int RUNS = 400;
    private static final int CALLS = 500;
    private static final String[] SETTING = {"archer", "archer", "quiver", "quiver", "give", "give", "tune", "tune",
        "string", "field", "wind", "match", "close"};
    private static final String[] SHOOTING = {"shoot", "shoot", "shoot", "shoot", "shoot", "shoot", "shoot", "pull",
        "mend", "match", "tune", "string"};
    private static final String[] ASKING = {"ofArcher", "speed", "ofQuiver", "hit", "many", "ofMatch", "winner",
        "wouldHit", "mark", "best", "reach", "wouldScore", "digest"};

    private static long row;
    private static final TreeMap<String, Integer> ANSWERED = new TreeMap<>();

    public static void main(String[] args) {
        for (int run = 0; run < RUNS; run++) {
            row = 977 + 31L * run;
            oneRun(run);
        }
        allWasSeen();
        Check.end();
    }

    private static int any(int least, int most) {
        row = row * 6364136223846793005L + 1442695040888963407L;
        return least + (int) ((row >>> 33) % (most - least + 1));
    }

    private static void oneRun(int run) {
        ArrowField x = new ArrowField();
        PlainField plain = new PlainField();
        for (int made = 0; made < CALLS; made++) {
            String name = anyName(made);
            int[] a = anyArguments(name, plain);
            Object due = plain.call(name, a[0], a[1], a[2]);
            Object got = answer(x, name, a);
            String call = "run " + run + ", call " + made + ": " + name + "(" + a[0] + ", " + a[1] + ", " + a[2] + ")";
            Check.due(call + " answered " + got + ", due is " + due + "; the same", true, plus(due).equals(plus(got)));
            ANSWERED.merge(name + (due instanceof String ? " " + due : ""), 1, Integer::sum);
        }
        Check.due("run " + run + ": digest()", (long) (Long) plain.call("digest", 0, 0, 0), x.digest());
    }

    /** -0.0 and 0.0 are the same answer. */
    private static Object plus(Object answer) {
        return answer instanceof Double number ? (Object) (number + 0.0) : answer;
    }

    private static String anyName(int made) {
        int kind = any(0, 99);
        if (kind == 0) {
            return any(0, 1) == 0 ? "breakOff" : "horn";
        }
        if (made < 25 || kind < 12) {
            return SETTING[any(0, SETTING.length - 1)];
        }
        return kind < 75 ? SHOOTING[any(0, SHOOTING.length - 1)] : ASKING[any(0, ASKING.length - 1)];
    }

    /** Mostly within the bounds, now and then just beside them. */
    private static int about(int least, int most) {
        int kind = any(0, 39);
        if (kind == 0) {
            return least - 1;
        }
        if (kind == 1) {
            return most + 1;
        }
        if (kind == 2) {
            return any(0, 1) == 0 ? least : most;
        }
        return any(least, most);
    }

    private static int someone(PlainField plain) {
        int archers = ((Double) plain.call("many", 0, 0, 0)).intValue();
        return any(0, 30) == 0 ? any(-1, 6) : any(0, Math.max(0, archers - 1));
    }

    private static int someQuiver(PlainField plain) {
        int quivers = ((Double) plain.call("many", 1, 0, 0)).intValue();
        return any(0, 30) == 0 ? any(-1, 6) : any(0, Math.max(0, quivers - 1));
    }

    private static int[] anyArguments(String name, PlainField plain) {
        switch (name) {
            case "archer": return new int[] {about(20, 60), any(0, 2) == 0 ? about(0, 9) : 9, 0};
            case "quiver": return new int[] {about(200, 600), about(300, 1100), 0};
            case "give": return new int[] {someone(plain), someQuiver(plain), 0};
            case "tune": return tuning(plain);
            case "field": return new int[] {any(0, 2) == 0 ? about(10, 90) : about(10, 18), about(-16, 16), about(1, 8)};
            case "wind": return new int[] {about(-16, 16), 0, 0};
            case "shoot": return shooting(plain);
            case "mend": return new int[] {someQuiver(plain), 0, 0};
            case "match": return new int[] {someone(plain), someone(plain), 0};
            case "close": return new int[] {any(0, 4) == 0 ? 1 : 0, 0, 0};
            case "ofArcher": return new int[] {someone(plain), about(0, 10), 0};
            case "ofQuiver": return new int[] {someQuiver(plain), about(0, 6), 0};
            case "hit": return new int[] {someQuiver(plain), about(0, 11), any(0, 1)};
            case "many": return new int[] {about(0, 11), 0, 0};
            case "ofMatch": return new int[] {about(0, 7), 0, 0};
            case "wouldHit": return new int[] {someone(plain), about(0, 127), any(0, 1)};
            default: return new int[] {someone(plain), 0, 0};
        }
    }

    /** Mostly to the mark, so that there are SCORES. */
    private static int[] tuning(PlainField plain) {
        int archer = someone(plain);
        Object mark = plain.call("mark", archer, 0, 0);
        if (mark instanceof Double sight && any(0, 9) > 0) {
            return new int[] {archer, sight.intValue(), any(-1, 1)};
        }
        return new int[] {archer, about(0, 127), about(-8, 8)};
    }

    /** Mostly the one whose turn it is. */
    private static int[] shooting(PlainField plain) {
        int turn = ((Double) plain.call("ofMatch", 6, 0, 0)).intValue();
        return new int[] {turn >= 0 && any(0, 9) > 0 ? turn : someone(plain), about(0, 11), 0};
    }

    private static Object answer(ArrowField x, String name, int[] a) {
        try {
            return made(x, name, a[0], a[1], a[2]);
        } catch (RuntimeException e) {
            return e.getClass().getSimpleName();
        }
    }

    private static Object made(ArrowField x, String name, int a, int b, int c) {
        switch (name) {
            case "archer": return (double) x.archer(a, b);
            case "quiver": return (double) x.quiver(a, b);
            case "give": return (double) x.give(a, b);
            case "tune": return (double) x.tune(a, b, c);
            case "string": return x.string(a);
            case "field": return (double) x.field(a, b, c);
            case "wind": return (double) x.wind(a);
            case "shoot": return (double) x.shoot(a, b);
            case "pull": return (double) x.pull();
            case "mend": return (double) x.mend(a);
            case "match": return (double) x.match(a, b);
            case "breakOff": return (double) x.breakOff();
            case "close": return x.close(a != 0) ? 1.0 : 0.0;
            case "horn": return (double) x.horn();
            default: return asked(x, name, a, b, c);
        }
    }

    private static Object asked(ArrowField x, String name, int a, int b, int c) {
        switch (name) {
            case "ofArcher": return (double) x.ofArcher(a, b);
            case "speed": return x.speed(a);
            case "ofQuiver": return (double) x.ofQuiver(a, b);
            case "hit": return x.hit(a, b, c != 0);
            case "many": return (double) x.many(a);
            case "ofMatch": return (double) x.ofMatch(a);
            case "winner": return (double) x.winner();
            case "wouldHit": return x.wouldHit(a, b, c != 0);
            case "mark": return (double) x.mark(a);
            case "best": return (double) x.best(a);
            case "reach": return (double) x.reach(a);
            case "wouldScore": return (double) x.wouldScore(a);
            case "digest": return x.digest();
            default: throw new IllegalArgumentException(name);
        }
    }

    /** Every call answered, and threw each exception that it can. */
    private static void allWasSeen() {
        String[] due = {"archer", "archer A", "archer S", "quiver", "quiver A", "quiver S", "give", "give I", "give S",
            "tune", "tune I", "tune A", "string", "string I", "field", "field A", "field S", "wind", "wind A", "shoot",
            "shoot I", "shoot S", "pull", "mend", "mend I", "match", "match I", "match A", "match S", "breakOff",
            "breakOff S", "close", "horn", "ofArcher", "ofArcher I", "ofArcher A", "speed", "speed I", "ofQuiver",
            "ofQuiver I", "ofQuiver A", "hit", "hit I", "many", "many A", "ofMatch", "ofMatch A", "winner", "wouldHit",
            "wouldHit I", "wouldHit A", "wouldHit S", "mark", "mark I", "mark S", "best", "best I", "reach", "reach I",
            "reach S", "wouldScore", "wouldScore I", "wouldScore S", "digest"};
        for (String name : due) {
            String whole = name.replace(" I", " IndexOutOfBoundsException").replace(" A", " IllegalArgumentException")
                    .replace(" S", " IllegalStateException");
            Check.due(whole + " was seen", true, ANSWERED.containsKey(whole));
        }
        Check.due("nothing else was seen", due.length, ANSWERED.size());
    }
}
