import java.math.BigInteger;
import java.util.ArrayList;
import java.util.HashMap;
import java.util.List;
import java.util.Map;
import java.util.TreeSet;
import java.util.regex.Matcher;
import java.util.regex.Pattern;

/**
 * The document once more, in another way: slowly, by trying all, with the Java library.
 * It shares no code with the class, so that a slip in one of the two shows.
 */
final class Model {
    private static final String KINDS = "tcdpfw";
    private static final Pattern SHOP = Pattern.compile(
            "(?:t[tcdpfw][0-9];|g[0-9]{5};|v[0-9]{7};|y[0-9]{2};|h[0-9]{2};|d[0-9]{2};|s[0-9]{4};)+");

    private static final class Thing {
        private int kind;
        private int figure;
        private Integer set;
        private int[] glad = new int[12];

        private Thing copy() {
            Thing t = new Thing();
            t.kind = kind;
            t.figure = figure;
            t.set = set;
            t.glad = glad.clone();
            return t;
        }
    }

    private static final class State {
        private List<Thing> things = new ArrayList<>();
        private int now;
        private int drops = 20;
        private int hands = 1;
        private TreeSet<Integer> halves = new TreeSet<>();

        private State copy() {
            State s = new State();
            for (Thing t : things) {
                s.things.add(t.copy());
            }
            s.now = now;
            s.drops = drops;
            s.hands = hands;
            s.halves = new TreeSet<>(halves);
            return s;
        }
    }

    private State state = new State();
    private State image;
    private final List<Integer> row = new ArrayList<>();
    private final StringBuilder letters = new StringBuilder();
    private final Map<Integer, Integer> refused = new HashMap<>();

    long call(String name, int[] a) {
        int refusal = refusal(name, a);
        if (refusal == 0) {
            return answer(name, a);
        }
        refused.merge(refusal, 1, Integer::sum);
        switch (name) {
            case "water":
                return 1000000000L - refusal;
            case "slip":
            case "mean":
                return 4000000000000000000L - refusal;
            default:
                return refusal;
        }
    }

    // ---- what is refused, a list of rules a call, in their order

    private int refusal(String name, int[] a) {
        switch (name) {
            case "letter":
                return first(rule(a[0] < 0, -4), rule(a[0] > 255 || letters.length() == 96, -6));
            case "thing":
                return first(nobody(a[0]), rule(out(a[1], 0, 4), -2));
            case "glad":
            case "fewest":
                return first(nobody(a[0]), noYear(a[1]));
            case "halves":
            case "pairs":
                return first(noTwo(a[0], a[1]));
            case "turn":
                return first(nobody(a[0]), rule(out(a[1], 0, 5), -2), rule(a[2] < 0, -4), rule(a[2] > 9, -6));
            case "makes":
            case "mended":
                return first(nobody(a[0]), noYear(a[1]), rule(a[2] < 0, -4), rule(a[2] > 99, -6));
            case "now":
                return noYear(a[0]);
            case "hands":
                return first(rule(a[0] < 1, -4), rule(a[0] > 4, -6));
            case "pours":
            case "byMinutes":
                return first(rule(a[0] < 0, -4), rule(a[0] > 99, -6));
            case "glues":
                return first(nobody(a[0]), rule(a[1] < 0 || a[2] < 0, -4), rule(a[1] > 99 || a[2] > 9, -6),
                        rule(has(a[0]) && (get(a[0]).set != null || cost(get(a[0])) > state.drops), -3));
            case "washes":
            case "water":
                return first(nobody(a[0]), rule(has(a[0]) && get(a[0]).set == null, -3));
            case "would":
                return first(nobody(a[0]), rule(a[1] < 0 || a[2] < 0, -4), rule(a[1] > 99 || a[2] > 9, -6),
                        rule(out(a[3], 0, 2), -2));
            case "can":
            case "regret":
            case "judge":
                return nobody(a[0]);
            case "agree":
            case "most":
                return rule(out(a[0], 0, 1), -2);
            case "together":
                return first(noTwo(a[0], a[1]), rule(out(a[2], 0, 1), -2),
                        rule(has(a[0]) && has(a[1]) && (get(a[0]).set != null || get(a[1]).set != null), -3));
            case "queue":
                return a[0] == -1 ? 0 : nobody(a[0]);
            case "two":
                return first(nobody(a[0]), rule(a[1] < 0, -4), rule(a[1] > 99, -6));
            case "slip":
                return first(nobody(a[0]), noYear(a[3]), rule(a[1] < 0 || a[2] < 2, -4),
                        rule(a[1] > 8 || a[2] > 20, -6), rule(out(a[4], 0, 1), -2));
            case "mean":
                return first(nobody(a[0]), rule(a[1] < 0 || a[2] < 2, -4),
                        rule(a[1] > 8 || a[2] > 20, -6), rule(out(a[3], 0, 1), -2));
            case "whatWas":
                return first(nobody(a[0]), rule(out(a[1], 0, 1), -2));
            case "row":
                return first(rule(a[0] < 0, -4), rule(a[0] > 99 || row.size() == 16, -6));
            case "lots":
                return first(rule(a[0] < 1, -4), rule(a[0] > 20, -6), rule(out(a[2], 0, 1), -2));
            case "on":
                return rule(image == null, -3);
            default:
                return 0;
        }
    }

    private static int first(int... refusals) {
        for (int refusal : refusals) {
            if (refusal != 0) {
                return refusal;
            }
        }
        return 0;
    }

    private static int rule(boolean broken, int refusal) {
        return broken ? refusal : 0;
    }

    private static boolean out(int v, int least, int greatest) {
        return v < least || v > greatest;
    }

    private boolean has(int thing) {
        return !out(thing, 0, state.things.size() - 1);
    }

    private Thing get(int thing) {
        return state.things.get(thing);
    }

    private int nobody(int thing) {
        return has(thing) ? 0 : -1;
    }

    private static int noYear(int year) {
        return out(year, 0, 11) ? -1 : 0;
    }

    private int noTwo(int one, int other) {
        return has(one) && has(other) && one != other ? 0 : -1;
    }

    // ---- what is answered

    private long answer(String name, int[] a) {
        switch (name) {
            case "letter":
                letters.append((char) a[0]);
                return letters.length();
            case "shop":
                return shop();
            case "thing":
                Thing t = get(a[0]);
                return new int[] {t.kind, t.figure, t.set == null ? -9 : t.set, howGlad(t, state), cost(t)}[a[1]];
            case "glad":
                return get(a[0]).glad[a[1]];
            case "halves":
                return state.halves.contains(two(a[0], a[1])) ? 1 : 0;
            case "turn":
                int turned = get(a[0]).kind * 10 + get(a[0]).figure;
                get(a[0]).kind = a[1];
                get(a[0]).figure = a[2];
                return turned;
            case "makes":
                int made = get(a[0]).glad[a[1]];
                get(a[0]).glad[a[1]] = a[2];
                return made;
            case "pairs":
                return turnHalves(state, a[0], a[1]);
            case "now":
                int was = state.now;
                state.now = a[0];
                return was;
            case "hands":
                int hands = state.hands;
                state.hands = a[0];
                return hands;
            case "pours":
                int drops = state.drops;
                state.drops = a[0];
                return drops;
            case "glues":
                state.drops -= cost(get(a[0]));
                get(a[0]).set = year(get(a[0]), a[1], a[2], state.now);
                return get(a[0]).set;
            case "washes":
                int washed = get(a[0]).set;
                get(a[0]).set = null;
                return washed;
            case "would":
                int set = year(get(a[0]), a[1], a[2], state.now);
                return new int[] {set, reach(get(a[0]), a[1], a[2]), get(a[0]).glad[set]}[a[3]];
            default:
                return moreAnswers(name, a);
        }
    }

    private long moreAnswers(String name, int[] a) {
        switch (name) {
            case "can":
                int years = 0;
                for (int m = 0; m <= 99; m++) {
                    years |= 1 << year(get(a[0]), m, 0, state.now);
                }
                return years;
            case "fewest":
                return fewest(get(a[0]), a[1], state.now);
            case "gladness":
                return gladness(state);
            case "agree":
                return a[0] == 0 ? agreeing(state) : firstApart();
            case "most":
                return most(state.now, state.drops)[a[0]];
            case "byMinutes":
                return byMinutes(0, a[0], new HashMap<>());
            case "fewDrops":
                int needed = 99;
                int goal = most(state.now, 99)[0];
                while (needed > 0 && most(state.now, needed - 1)[0] == goal) {
                    needed--;
                }
                return needed;
            case "together":
                return together(get(a[0]), get(a[1]))[a[2]];
            case "queue":
                return queue(a[0]);
            case "oneMore":
                State later = state.copy();
                later.now = Math.min(11, later.now + 1);
                return gladness(later);
            case "bestYear":
                int best = 11;
                for (int year = 11; year >= 0; year--) {
                    best = most(year, state.drops)[0] >= most(best, state.drops)[0] ? year : best;
                }
                return best;
            case "water":
                return washedBy(a[0]);
            case "bestWash":
                return bestWash();
            case "sour":
                int bits = 0;
                for (int i = 0; i < state.things.size(); i++) {
                    bits += howGlad(get(i), state) < get(i).glad[state.now] ? 1 << i : 0;
                }
                return bits;
            case "regret":
                int regret = 0;
                for (int year = 0; year <= state.now; year++) {
                    regret = Math.max(regret, get(a[0]).glad[year] - howGlad(get(a[0]), state));
                }
                return regret;
            default:
                return lastAnswers(name, a);
        }
    }

    private long lastAnswers(String name, int[] a) {
        switch (name) {
            case "two":
                return twoPress(get(a[0]), a[1]);
            case "slip":
                return slips(get(a[0]), a[1], a[2], a[3])[a[4]].longValueExact();
            case "mean":
                return slips(get(a[0]), a[1], a[2], -1)[a[3]].longValueExact();
            case "whatWas":
                return whatWas(get(a[0]).copy(), a[1]);
            case "mended":
                Thing other = get(a[0]).copy();
                for (int v = 0; v < 100; v++) {
                    other.glad[a[1]] = v;
                    if (year(other, a[2], 0, state.now) == a[1]) {
                        return v;
                    }
                }
                return -9;
            case "row":
                row.add(a[0]);
                return row.size();
            case "judge":
                int wrong = 0;
                while (wrong < row.size() && wrong < 12 && row.get(wrong) == get(a[0]).glad[wrong]) {
                    wrong++;
                }
                int judged = wrong == row.size() ? -9 : wrong;
                row.clear();
                return judged;
            case "clear":
                int had = row.size();
                row.clear();
                return had;
            case "lots":
                return lots(a[0], a[1], a[2]);
            case "image":
                image = state.copy();
                return state.now;
            case "on":
                state = image.copy();
                return state.now;
            case "count":
                return count(a[0]);
            default:
                throw new IllegalStateException(name);
        }
    }

    private int count(int what) {
        int set = 0;
        for (int i = 0; i < state.things.size(); i++) {
            set += get(i).set == null ? 0 : 1 << i;
        }
        if (what >= 0 && what <= 7) {
            return new int[] {state.things.size(), state.now, state.drops, state.hands, set, state.halves.size(),
                row.size(), letters.length()}[what];
        }
        return what >= 11 && what <= 16 ? refused.getOrDefault(10 - what, 0) : -9;
    }

    // ---- a SHOP

    private int shop() {
        String text = letters.toString();
        letters.setLength(0);
        for (int end = 1; end <= text.length(); end++) {
            Matcher m = SHOP.matcher(text.substring(0, end));
            if (!m.matches() && !m.hitEnd()) {
                return -1000 - (end - 1);
            }
        }
        if (!SHOP.matcher(text).matches()) {
            return -1000 - text.length();
        }
        State trial = state.copy();
        int place = 0;
        String[] statements = text.split(";");
        for (String s : statements) {
            if (!tell(trial, s)) {
                return -2000 - place;
            }
            place += s.length() + 1;
        }
        state = trial;
        return statements.length;
    }

    private static boolean tell(State s, String statement) {
        String rest = statement.substring(1);
        switch (statement.charAt(0)) {
            case 't':
                Thing t = new Thing();
                t.kind = KINDS.indexOf(rest.charAt(0));
                t.figure = number(rest, 1, 2);
                s.things.add(t);
                return s.things.size() <= 8;
            case 'g':
                return glad(s, number(rest, 0, 1), number(rest, 1, 3), number(rest, 1, 3), number(rest, 3, 5));
            case 'v':
                return glad(s, number(rest, 0, 1), number(rest, 1, 3), number(rest, 3, 5), number(rest, 5, 7));
            case 'y':
                s.now = number(rest, 0, 2);
                return s.now <= 11;
            case 'h':
                int one = number(rest, 0, 1);
                int other = number(rest, 1, 2);
                if (one == other || Math.max(one, other) >= s.things.size()) {
                    return false;
                }
                turnHalves(s, one, other);
                return true;
            case 'd':
                s.drops = number(rest, 0, 2);
                return true;
            default:
                return tellGlued(s, rest);
        }
    }

    private static boolean tellGlued(State s, String rest) {
        if (number(rest, 0, 1) >= s.things.size()) {
            return false;
        }
        Thing it = s.things.get(number(rest, 0, 1));
        if (it.set != null || cost(it) > s.drops) {
            return false;
        }
        it.set = year(it, number(rest, 1, 3), number(rest, 3, 4), s.now);
        s.drops -= cost(it);
        return true;
    }

    private static boolean glad(State s, int thing, int from, int to, int v) {
        if (thing >= s.things.size() || from > to || to > 11) {
            return false;
        }
        for (int year = from; year <= to; year++) {
            s.things.get(thing).glad[year] = v;
        }
        return true;
    }

    private static int number(String text, int from, int to) {
        return Integer.parseInt(text.substring(from, to));
    }

    private static int two(int one, int other) {
        return 10 * Math.min(one, other) + Math.max(one, other);
    }

    private static int turnHalves(State s, int one, int other) {
        if (s.halves.remove(two(one, other))) {
            return 0;
        }
        s.halves.add(two(one, other));
        return 1;
    }

    // ---- a THING

    private static int cost(Thing t) {
        return KINDS.charAt(t.kind) == 'f' ? t.figure + 1 : 1;
    }

    private static int reach(Thing t, int minutes, int press) {
        int plain = 0;
        for (int m = 5; m <= minutes; m += 5) {
            plain++;
        }
        for (int p = 0; p < press && plain > 0; p++) {
            plain--;
        }
        switch (KINDS.charAt(t.kind)) {
            case 'd':
            case 'w':
                return plain + t.figure;
            case 'f':
                return plain >> 1;
            default:
                return plain;
        }
    }

    private static int year(Thing t, int minutes, int press, int now) {
        List<Integer> years = new ArrayList<>();
        for (int back = 0; back <= reach(t, minutes, press); back++) {
            if (now - back >= 0) {
                years.add(now - back);
            }
        }
        char kind = KINDS.charAt(t.kind);
        years.sort((one, other) -> {
            if (kind == 'w') {
                return t.glad[one] != t.glad[other] ? t.glad[one] - t.glad[other] : other - one;
            }
            int less = kind == 'p' ? t.figure : 0;
            int first = t.glad[one] - less * (now - one);
            int second = t.glad[other] - less * (now - other);
            boolean earliest = kind == 'c' || kind == 'p';
            return first != second ? second - first : earliest ? one - other : other - one;
        });
        return years.get(0);
    }

    private static int fewest(Thing t, int year, int now) {
        for (int m = 0; m <= 99; m++) {
            if (year(t, m, 0, now) == year) {
                return m;
            }
        }
        return -9;
    }

    private static int howGlad(Thing t, State s) {
        return t.glad[t.set == null ? s.now : t.set];
    }

    // ---- all THINGS

    private static int gladness(State s) {
        return s.things.stream().mapToInt(t -> howGlad(t, s)).sum();
    }

    private static boolean agrees(State s, int two) {
        Integer one = s.things.get(two / 10).set;
        return one != null && one.equals(s.things.get(two % 10).set);
    }

    private static int agreeing(State s) {
        return (int) s.halves.stream().filter(two -> agrees(s, two)).count();
    }

    private int firstApart() {
        return state.halves.stream().filter(two -> !agrees(state, two)).findFirst().orElse(-9);
    }

    /** The most, and its bits: all choices, THING by THING, as a list of {bits, drops left, glad}. */
    private int[] most(int now, int drops) {
        List<int[]> choices = new ArrayList<>();
        choices.add(new int[] {0, drops, 0});
        for (int i = 0; i < state.things.size(); i++) {
            Thing t = get(i);
            List<int[]> more = new ArrayList<>();
            int best = 0;
            for (int m = 0; m <= 99 && t.set == null; m += 5) {
                best = Math.max(best, t.glad[year(t, m, 0, now)]);
            }
            for (int[] c : choices) {
                more.add(new int[] {c[0], c[1], c[2] + t.glad[t.set == null ? now : t.set]});
                if (t.set == null && c[1] >= cost(t)) {
                    more.add(new int[] {c[0] | 1 << i, c[1] - cost(t), c[2] + best});
                }
            }
            choices = more;
        }
        int[] most = {-1, 0};
        for (int[] c : choices) {
            if (c[2] > most[0] || c[2] == most[0] && c[0] < most[1]) {
                most = new int[] {c[2], c[0]};
            }
        }
        return most;
    }

    private int byMinutes(int thing, int minutes, Map<Integer, Integer> known) {
        if (thing == state.things.size()) {
            return 0;
        }
        int key = thing * 100 + minutes;
        if (known.containsKey(key)) {
            return known.get(key);
        }
        Thing t = get(thing);
        int best = howGlad(t, state) + byMinutes(thing + 1, minutes, known);
        for (int m = 0; m <= minutes && t.set == null; m++) {
            best = Math.max(best, t.glad[year(t, m, 0, state.now)] + byMinutes(thing + 1, minutes - m, known));
        }
        known.put(key, best);
        return best;
    }

    private int[] together(Thing one, Thing other) {
        int[] best = {-9, -9};
        for (int both = 198; both >= 0; both--) {
            for (int year = 11; year >= 0; year--) {
                int first = fewest(one, year, state.now);
                int second = fewest(other, year, state.now);
                if (first >= 0 && second >= 0 && first + second == both) {
                    best = new int[] {both, year};
                }
            }
        }
        return best;
    }

    private int queue(int asked) {
        int[] freeAt = new int[state.hands];
        int begins = -9;
        int done = 0;
        for (int i = 0; i < state.things.size(); i++) {
            Thing t = get(i);
            int wish = 0;
            for (int year = 0; year <= state.now; year++) {
                wish = t.glad[year] >= t.glad[wish] ? year : wish;
            }
            int minutes = fewest(t, wish, state.now);
            if (t.set != null || minutes < 0) {
                continue;
            }
            int hand = 0;
            for (int h = state.hands - 1; h >= 0; h--) {
                hand = freeAt[h] <= freeAt[hand] ? h : hand;
            }
            begins = i == asked ? freeAt[hand] : begins;
            freeAt[hand] += minutes;
            done = Math.max(done, freeAt[hand]);
        }
        return asked == -1 ? done : begins;
    }

    private int washedBy(int thing) {
        State dry = state.copy();
        dry.things.get(thing).set = null;
        return gladness(dry) - gladness(state);
    }

    private int bestWash() {
        int best = -9;
        for (int i = state.things.size() - 1; i >= 0; i--) {
            if (washedBy(i) > 0 && (best == -9 || washedBy(i) >= washedBy(best))) {
                best = i;
            }
        }
        return best;
    }

    private int twoPress(Thing t, int minutes) {
        int[][] years = new int[5][5];
        for (int i = 0; i < 25; i++) {
            years[i / 5][i % 5] = year(t, minutes, i / 5 + i % 5, state.now);
        }
        for (int i = 0; i < 25; i++) {
            int best = 0;
            int worst = 11;
            for (int p = 0; p < 5; p++) {
                best = Math.max(best, years[p][i % 5]);
                worst = Math.min(worst, years[i / 5][p]);
            }
            if (best == years[i / 5][i % 5] && worst == best) {
                return 10 * (i / 5) + i % 5;
            }
        }
        return -9;
    }

    /** The fraction of a YEAR; of the mean for -1: every one of the 2 to the n ways to slip by itself. */
    private BigInteger[] slips(Thing t, int n, int odds, int wanted) {
        BigInteger above = BigInteger.ZERO;
        for (int way = 0; way < 1 << n; way++) {
            int counted = Integer.bitCount(way);
            int year = year(t, counted * 5, 0, state.now);
            long weight = wanted == -1 ? t.glad[year] : year == wanted ? 1 : 0;
            above = above.add(BigInteger.valueOf(odds - 1).pow(counted).multiply(BigInteger.valueOf(weight)));
        }
        BigInteger below = BigInteger.valueOf(odds).pow(n);
        BigInteger common = above.gcd(below);
        return new BigInteger[] {above.divide(common), below.divide(common)};
    }

    private int whatWas(Thing t, int what) {
        int bits = 0;
        for (int v = 0; v < (what == 0 ? 6 : 10); v++) {
            t.kind = what == 0 ? v : t.kind;
            t.figure = what == 1 ? v : t.figure;
            boolean fits = true;
            for (int i = 0; i < row.size(); i++) {
                fits &= year(t, 5 * i, 0, state.now) == row.get(i);
            }
            bits += fits ? 1 << v : 0;
        }
        return bits;
    }

    private int lots(int n, int z, int what) {
        int all = 0;
        long seed = z;
        for (int i = 0; i < n; i++) {
            State shop = state.copy();
            for (Thing t : shop.things) {
                if (t.set == null) {
                    seed = (int) (seed * 1664525L + 1013904223L);
                    int minutes = (int) ((seed & 0x7fffffffL) / 256 % 60);
                    seed = (int) (seed * 1664525L + 1013904223L);
                    t.set = year(t, minutes, (int) ((seed & 0x7fffffffL) / 256 % 4), shop.now);
                }
            }
            all += what == 0 ? gladness(shop) : agreeing(shop);
        }
        return all;
    }
}
