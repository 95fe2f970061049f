import java.util.ArrayList;
import java.util.Arrays;
import java.util.List;

/**
 * The REFUSALS of each call: every number of every call at its least, at its greatest, just beyond both and far beyond
 * both, each with each of the others, so that every two reasons meet and the first in the promise's order is due.
 * A refused call changes nothing but how many there were; a call that only asks changes nothing at all.
 */
public final class RefusalsTest {
    private static final int MIN = Integer.MIN_VALUE;
    private static final int MAX = Integer.MAX_VALUE;

    /** What is told of one number of a call: its least, its greatest, and what is answered below and above. */
    private record Range(int least, int greatest, int below, int above) {
        private int refusal(int v) {
            return v < least ? below : v > greatest ? above : 0;
        }

        private int[] edges() {
            return least == MIN ? new int[] {MIN, -1, 0, MAX}
                    : new int[] {MIN, least - 1, least, greatest, greatest + 1, MAX};
        }

        /** Numbers that would be in range, were they cut to a byte, a short, or without their sign. */
        private int[] wraps() {
            return least == MIN ? new int[0] : new int[] {least + 256, greatest - 256, least + 65536, greatest - 65536,
                MIN + 1 + greatest, MAX - 255, MIN + 256 + greatest};
        }
    }

    private record Call(int promise, String name, boolean asksAlone, int[] order, Range... ranges) {
    }

    /** What there is: texts before and behind the image. */
    private record Scene(String name, int things, boolean state, boolean image, String before, String behind) {
    }

    private static final Scene OPEN = new Scene("none is SET", 3, false, true,
            "tt3;tf4;tw5;y09;v0000544;g20733;h01;d50;", "y07;h12;d20;g00366;");
    private static final Scene SET = new Scene("all are SET", 3, true, true,
            "tt3;tf4;tw5;y09;v0000544;g20733;h01;d50;", "y07;h12;d20;g00366;s0100;s1000;s2000;");
    private static final Scene DRY = new Scene("not enough DROPS", 3, true, true,
            "tf1;tf2;tf9;y09;v0000544;g20733;h01;d50;", "y07;h12;d01;");
    private static final Scene FULL = new Scene("8 THINGS", 8, false, true,
            "tt3;tf4;tw5;tp9;tc0;td9;tt0;tt1;y09;v0000544;g70733;h07;d99;", "y11;h12;");
    private static final Scene EMPTY = new Scene("no THINGS", 0, false, true, "y02;", "y03;d07;");
    private static final Scene NO_IMAGE = new Scene("no image", 3, true, false, "tt3;tf4;tw5;y09;v0000544;", "y01;");

    private static final Range YEAR = new Range(0, 11, -1, -1);
    private static final Range HELD = new Range(0, 99, -4, -6);
    private static final Range PRESS = new Range(0, 9, -4, -6);
    private static final Range ONE_OF_TWO = new Range(0, 1, -2, -2);
    private static final Range SLIPS = new Range(0, 8, -4, -6);
    private static final Range ODDS = new Range(2, 20, -4, -6);
    private static final Range ANY = new Range(MIN, MAX, 0, 0);

    private final Checks checks = new Checks();

    public static void main(String[] args) {
        RefusalsTest t = new RefusalsTest();
        for (Scene scene : new Scene[] {OPEN, FULL, EMPTY}) {
            t.tellings(scene);
            t.doings(scene);
            t.askings(scene);
            t.lastAskings(scene);
            t.neverRefused(scene);
        }
        t.states();
        t.fullLettersAndRow();
        t.checks.end("RefusalsTest");
    }

    private static int[] order(int... refusals) {
        return refusals;
    }

    private static Range thing(Scene scene) {
        return new Range(0, scene.things() - 1, -1, -1);
    }

    // ---- the promises' tables

    private void tellings(Scene s) {
        Range thing = thing(s);
        all(s, new Call(2, "letter", false, order(-4, -6), new Range(0, 255, -4, -6)));
        all(s, new Call(4, "thing", true, order(-1, -2), thing, new Range(0, 4, -2, -2)));
        all(s, new Call(5, "glad", true, order(-1), thing, YEAR));
        all(s, new Call(6, "halves", true, order(-1), thing, thing));
        all(s, new Call(7, "turn", false, order(-1, -2, -4, -6), thing, new Range(0, 5, -2, -2), new Range(0, 9, -4, -6)));
        all(s, new Call(8, "makes", false, order(-1, -4, -6), thing, YEAR, new Range(0, 99, -4, -6)));
        all(s, new Call(9, "pairs", false, order(-1), thing, thing));
    }

    private void doings(Scene s) {
        Range thing = thing(s);
        all(s, new Call(10, "now", false, order(-1), YEAR));
        all(s, new Call(11, "hands", false, order(-4, -6), new Range(1, 4, -4, -6)));
        all(s, new Call(12, "pours", false, order(-4, -6), new Range(0, 99, -4, -6)));
        all(s, new Call(13, "glues", false, order(-1, -4, -6, -3), thing, HELD, PRESS));
        all(s, new Call(36, "row", false, order(-4, -6), new Range(0, 99, -4, -6)));
        all(s, new Call(37, "judge", false, order(-1), thing));
        all(s, new Call(41, "on", false, order(-3)));
    }

    private void askings(Scene s) {
        Range thing = thing(s);
        all(s, new Call(15, "would", true, order(-1, -4, -6, -2), thing, HELD, PRESS, new Range(0, 2, -2, -2)));
        all(s, new Call(16, "can", true, order(-1), thing));
        all(s, new Call(17, "fewest", true, order(-1), thing, YEAR));
        all(s, new Call(19, "agree", true, order(-2), ONE_OF_TWO));
        all(s, new Call(20, "most", true, order(-2), ONE_OF_TWO));
        all(s, new Call(21, "byMinutes", true, order(-4, -6), HELD));
        all(s, new Call(23, "together", true, order(-1, -2, -3), thing, thing, ONE_OF_TWO));
        all(s, new Call(24, "queue", true, order(-1), new Range(-1, s.things() - 1, -1, -1)));
        all(s, new Call(30, "regret", true, order(-1), thing));
    }

    private void lastAskings(Scene s) {
        Range thing = thing(s);
        all(s, new Call(31, "two", true, order(-1, -4, -6), thing, HELD));
        all(s, new Call(32, "slip", true, order(-1, -4, -6, -2), thing, SLIPS, ODDS, YEAR, ONE_OF_TWO));
        all(s, new Call(33, "mean", true, order(-1, -4, -6, -2), thing, SLIPS, ODDS, ONE_OF_TWO));
        all(s, new Call(34, "whatWas", true, order(-1, -2), thing, ONE_OF_TWO));
        all(s, new Call(35, "mended", true, order(-1, -4, -6), thing, YEAR, HELD));
        all(s, new Call(39, "lots", true, order(-4, -6, -2), new Range(1, 20, -4, -6), ANY, ONE_OF_TWO));
    }

    private void neverRefused(Scene s) {
        for (String name : new String[] {"gladness", "fewDrops", "oneMore", "bestYear", "bestWash", "sour"}) {
            all(s, new Call(0, name, true, order()));
        }
        for (String name : new String[] {"shop", "clear", "image"}) {
            all(s, new Call(0, name, false, order()));
        }
        all(s, new Call(42, "count", true, order(), ANY));
        for (int what = -1; what <= 18; what++) {
            one(s, new Call(42, "count", true, order(), ANY), what);
        }
    }

    /** -3, and that it is the last of all reasons. */
    private void states() {
        Range thing = thing(OPEN);
        for (Scene s : new Scene[] {SET, DRY}) {
            all(s, new Call(13, "glues", false, order(-1, -4, -6, -3), thing, HELD, PRESS));
        }
        all(SET, new Call(23, "together", true, order(-1, -2, -3), thing, thing, ONE_OF_TWO));
        Scene open = new Scene("none is SET", 3, true, true, OPEN.before(), OPEN.behind());
        all(open, new Call(14, "washes", false, order(-1, -3), thing));
        all(open, new Call(27, "water", true, order(-1, -3), thing));
        Scene set = new Scene("all are SET", 3, false, true, SET.before(), SET.behind());
        all(set, new Call(14, "washes", false, order(-1, -3), thing));
        all(set, new Call(27, "water", true, order(-1, -3), thing));
        all(EMPTY, new Call(14, "washes", false, order(-1, -3), thing(EMPTY)));
        all(EMPTY, new Call(27, "water", true, order(-1, -3), thing(EMPTY)));
        all(NO_IMAGE, new Call(41, "on", false, order(-3)));
        // What asks what would be, is answered of SET THINGS too.
        all(set, new Call(15, "would", true, order(-1, -4, -6, -2), thing, HELD, PRESS, new Range(0, 2, -2, -2)));
        all(set, new Call(16, "can", true, order(-1), thing));
        all(set, new Call(17, "fewest", true, order(-1), thing, YEAR));
        all(set, new Call(24, "queue", true, order(-1), new Range(-1, 2, -1, -1)));
        all(set, new Call(31, "two", true, order(-1, -4, -6), thing, HELD));
        all(set, new Call(34, "whatWas", true, order(-1, -2), thing, ONE_OF_TWO));
        all(set, new Call(35, "mended", true, order(-1, -4, -6), thing, YEAR, HELD));
        // Not SET ones are turned as SET ones are; so are the YEARS in which they were GLAD.
        all(set, new Call(7, "turn", false, order(-1, -2, -4, -6), thing, new Range(0, 5, -2, -2), new Range(0, 9, -4, -6)));
        all(set, new Call(8, "makes", false, order(-1, -4, -6), thing, YEAR, new Range(0, 99, -4, -6)));
    }

    /** The 97th letter, the 17th number: -6 though they are in range themselves; -4 is told first. */
    private void fullLettersAndRow() {
        for (int v : new int[] {MIN, -1, 0, 'y', 255, 256, MAX}) {
            Asked a = new Asked();
            a.put("y00;".repeat(24));
            checks.due("2: 97th letter " + v, a.ask("letter", v), v < 0 ? -4 : -6);
            checks.due("2: still 96 behind " + v, a.ask("count", 7), 96);
            checks.due("2: -4 counted of " + v, a.ask("count", 14), v < 0 ? 1 : 0);
            checks.due("2: -6 counted of " + v, a.ask("count", 16), v < 0 ? 0 : 1);
            checks.due("3: 96 letters, 24 STATEMENTS", a.ask("shop"), 24);
            checks.due("2: room once more", a.ask("letter", 'y'), 1);
        }
        for (int v : new int[] {MIN, -1, 0, 99, 100, MAX}) {
            Asked a = new Asked();
            for (int i = 1; i <= 16; i++) {
                checks.due("36: number " + i, a.ask("row", 100 - i), i);
            }
            checks.due("36: 17th number " + v, a.ask("row", v), v < 0 ? -4 : -6);
            checks.due("36: still 16 behind " + v, a.ask("count", 6), 16);
            checks.due("36: -4 counted of " + v, a.ask("count", 14), v < 0 ? 1 : 0);
            checks.due("36: -6 counted of " + v, a.ask("count", 16), v < 0 ? 0 : 1);
            checks.due("38: 16 were in it", a.ask("clear"), 16);
            checks.due("36: room once more", a.ask("row", 0), 1);
        }
    }

    // ---- how a table is gone through

    private void all(Scene scene, Call call) {
        every(scene, call, new int[call.ranges().length], 0);
        int[] args = new int[call.ranges().length];
        for (int i = 0; i < args.length; i++) {
            for (int wrapped : call.ranges()[i].wraps()) {
                for (int j = 0; j < args.length; j++) {
                    args[j] = inRange(call, j);
                }
                args[i] = wrapped;
                one(scene, call, args);
            }
        }
    }

    /** The least, but for the second of two THINGS, which must be another. */
    private static int inRange(Call call, int i) {
        return isOther(call, i) ? call.ranges()[i].greatest() : call.ranges()[i].least();
    }

    private static boolean isOther(Call call, int i) {
        return i == 1 && (call.name().equals("halves") || call.name().equals("pairs") || call.name().equals("together"));
    }

    private void every(Scene scene, Call call, int[] args, int i) {
        if (i == args.length) {
            one(scene, call, args);
            return;
        }
        for (int v : call.ranges()[i].edges()) {
            args[i] = v;
            every(scene, call, args, i + 1);
        }
    }

    private static int due(Scene scene, Call call, int... args) {
        List<Integer> reasons = new ArrayList<>();
        for (int i = 0; i < args.length; i++) {
            reasons.add(call.ranges()[i].refusal(args[i]));
            if (isOther(call, i) && args[0] == args[1]) {
                reasons.add(-1);
            }
        }
        if (scene.state()) {
            reasons.add(-3);
        }
        for (int refusal : call.order()) {
            if (reasons.contains(refusal)) {
                return refusal;
            }
        }
        return 0;
    }

    private static long told(Call call, int refusal) {
        switch (call.name()) {
            case "water":
                return 1000000000L - refusal;
            case "slip":
            case "mean":
                return 4000000000000000000L - refusal;
            default:
                return refusal;
        }
    }

    private void one(Scene scene, Call call, int... args) {
        String what = call.promise() + ": " + scene.name() + ": " + call.name() + Arrays.toString(args);
        int refusal = due(scene, call, args);
        Asked a = build(scene);
        long answer = a.ask(call.name(), args);
        if (refusal != 0) {
            checks.due(what, answer, told(call, refusal));
        }
        for (int number = -1; number >= -6; number--) {
            checks.due(what + " counts of " + number, a.ask("count", 10 - number), number == refusal ? 1 : 0);
        }
        if (refusal != 0 || call.asksAlone()) {
            checks.holds(what + " changes nothing", readAll(scene, a).equals(unchanged(scene)));
        }
    }

    // ---- what there is in a scene, told by all that can be asked of it

    private static Asked build(Scene scene) {
        Asked a = new Asked();
        a.tell(scene.before());
        if (scene.image()) {
            a.ask("image");
        }
        a.tell(scene.behind());
        for (int i = 0; i < 3; i++) {
            a.ask("row", 44);
        }
        a.put("y05;d8");
        return a;
    }

    private Scene known;
    private List<Long> knownRead;

    private List<Long> unchanged(Scene scene) {
        if (scene != known) {
            known = scene;
            knownRead = readAll(scene, build(scene));
        }
        return knownRead;
    }

    private static List<Long> readAll(Scene scene, Asked a) {
        List<Long> all = new ArrayList<>();
        read(a, scene.things(), all);
        if (scene.things() > 0) {
            all.add(a.ask("judge", 0));
        }
        a.put("8;");
        all.add(a.ask("shop"));
        all.add(a.ask("count", 1));
        all.add(a.ask("count", 2));
        all.add(a.ask("on"));
        read(a, scene.things(), all);
        return all;
    }

    private static void read(Asked a, int things, List<Long> all) {
        for (int what = 0; what <= 7; what++) {
            all.add(a.ask("count", what));
        }
        for (int thing = 0; thing < things; thing++) {
            for (int what = 0; what <= 2; what++) {
                all.add(a.ask("thing", thing, what));
            }
            for (int year = 0; year <= 11; year++) {
                all.add(a.ask("glad", thing, year));
            }
            for (int other = thing + 1; other < things; other++) {
                all.add(a.ask("halves", thing, other));
            }
        }
    }
}
