/** A shop of THINGS that are glued and set in a YEAR; ../shared/DOC.md tells what each call promises. */
public final class GluedInLifetime {
    private static final int YEARS = 12;
    private static final int MOST_THINGS = 8;
    private static final int MOST_HANDS = 4;
    private static final int MOST_MINUTES = 99;
    private static final int MOST_DROPS = 99;
    private static final int MOST_GLAD = 99;
    private static final int MOST_PRESS = 9;
    private static final int MOST_FIGURE = 9;
    private static final int MOST_LETTERS = 96;
    private static final int MOST_IN_ROW = 16;
    private static final int MOST_SLIPS = 8;

    /** So many MINUTES reach a YEAR farther back. */
    private static final int STEP = 5;
    private static final int STEPS = MOST_MINUTES / STEP;

    private static final int PLAIN = 0;
    private static final int CHAIR = 1;
    private static final int DOLL = 2;
    private static final int PLATE = 3;
    private static final int FONT = 4;
    private static final int THUMB = 5;
    private static final String KIND_LETTERS = "tcdpfw";

    private static final int NOBODY = -1;
    private static final int OTHER = -2;
    private static final int STATE = -3;
    private static final int BELOW = -4;
    private static final int ROOM = -6;
    private static final int NONE = -9;

    private static final int WATER_REFUSAL = 1000000000;
    private static final long LONG_REFUSAL = 4000000000000000000L;

    private final Shop here = new Shop();
    private final Shop then = new Shop();
    private final Shop trial = new Shop();
    private final Thing probe = new Thing();
    private final Text text = new Text();
    private final Row told = new Row();
    private final Pot pot = new Pot();
    private final Line line = new Line();
    private final Slips slips = new Slips();
    private final int[] mostBySteps = new int[STEPS + 1];
    private final int[] refusals = new int[7];
    private boolean hasImage;
    private int seed;

    public GluedInLifetime() {
    }

    public int letter(int c) {
        if (c < 0) {
            return refuse(BELOW);
        }
        if (c > 255 || text.isFull()) {
            return refuse(ROOM);
        }
        text.put(c);
        return text.length;
    }

    public int shop() {
        int misfit = text.firstMisfit();
        int answer = misfit == NONE ? tellTrial() : -1000 - misfit;
        if (answer > 0) {
            here.copyFrom(trial);
        }
        text.length = 0;
        return answer;
    }

    public int thing(int thing, int what) {
        if (here.lacks(thing)) {
            return refuse(NOBODY);
        }
        Thing it = here.at(thing);
        switch (what) {
            case 0:
                return it.kind;
            case 1:
                return it.figure;
            case 2:
                return it.set;
            case 3:
                return it.howGlad(here.now);
            case 4:
                return it.cost();
            default:
                return refuse(OTHER);
        }
    }

    public int glad(int thing, int year) {
        if (here.lacks(thing) || noYear(year)) {
            return refuse(NOBODY);
        }
        return here.at(thing).gladIn(year);
    }

    public int halves(int one, int other) {
        if (here.lacksTwo(one, other)) {
            return refuse(NOBODY);
        }
        return here.areHalves(one, other) ? 1 : 0;
    }

    public int turn(int thing, int kind, int figure) {
        if (here.lacks(thing)) {
            return refuse(NOBODY);
        }
        if (kind < PLAIN || kind > THUMB) {
            return refuse(OTHER);
        }
        int refusal = outside(figure, 0, MOST_FIGURE);
        if (refusal != 0) {
            return refuse(refusal);
        }
        Thing it = here.at(thing);
        int was = 10 * it.kind + it.figure;
        it.kind = kind;
        it.figure = figure;
        return was;
    }

    public int makes(int thing, int year, int v) {
        if (here.lacks(thing) || noYear(year)) {
            return refuse(NOBODY);
        }
        int refusal = outside(v, 0, MOST_GLAD);
        if (refusal != 0) {
            return refuse(refusal);
        }
        Thing it = here.at(thing);
        int was = it.gladIn(year);
        it.makeGlad(year, v);
        return was;
    }

    public int pairs(int one, int other) {
        if (here.lacksTwo(one, other)) {
            return refuse(NOBODY);
        }
        here.turnHalves(one, other);
        return here.areHalves(one, other) ? 1 : 0;
    }

    public int now(int year) {
        if (noYear(year)) {
            return refuse(NOBODY);
        }
        int was = here.now;
        here.now = year;
        return was;
    }

    public int hands(int v) {
        int refusal = outside(v, 1, MOST_HANDS);
        if (refusal != 0) {
            return refuse(refusal);
        }
        int were = here.hands;
        here.hands = v;
        return were;
    }

    public int pours(int v) {
        int refusal = outside(v, 0, MOST_DROPS);
        if (refusal != 0) {
            return refuse(refusal);
        }
        int were = here.drops;
        here.drops = v;
        return were;
    }

    public int glues(int thing, int minutes, int press) {
        int refusal = heldRefusal(thing, minutes, press);
        if (refusal != 0) {
            return refuse(refusal);
        }
        if (!here.glue(thing, minutes, press)) {
            return refuse(STATE);
        }
        return here.at(thing).set;
    }

    public int washes(int thing) {
        if (here.lacks(thing)) {
            return refuse(NOBODY);
        }
        Thing it = here.at(thing);
        if (!it.isSet()) {
            return refuse(STATE);
        }
        int was = it.set;
        it.set = NONE;
        return was;
    }

    public int would(int thing, int minutes, int press, int what) {
        int refusal = heldRefusal(thing, minutes, press);
        if (refusal != 0) {
            return refuse(refusal);
        }
        if (what < 0 || what > 2) {
            return refuse(OTHER);
        }
        Thing it = here.at(thing);
        if (what == 1) {
            return it.reach(minutes, press);
        }
        int year = it.yearBy(minutes, press, here.now);
        return what == 0 ? year : it.gladIn(year);
    }

    public int can(int thing) {
        if (here.lacks(thing)) {
            return refuse(NOBODY);
        }
        int years = 0;
        for (int step = 0; step <= STEPS; step++) {
            years |= 1 << here.at(thing).yearBy(step * STEP, 0, here.now);
        }
        return years;
    }

    public int fewest(int thing, int year) {
        if (here.lacks(thing) || noYear(year)) {
            return refuse(NOBODY);
        }
        return here.at(thing).fewestFor(year, here.now);
    }

    public int gladness() {
        return here.gladTogether(here.now);
    }

    public int agree(int what) {
        if (notOneOfTwo(what)) {
            return refuse(OTHER);
        }
        return what == 0 ? here.countAgreeing() : here.firstApart();
    }

    public int most(int what) {
        if (notOneOfTwo(what)) {
            return refuse(OTHER);
        }
        pot.weigh(here, here.now);
        int bits = pot.bestBits(here.drops);
        return what == 0 ? pot.left + pot.gainOf(bits) : bits;
    }

    public int byMinutes(int m) {
        int refusal = outside(m, 0, MOST_MINUTES);
        if (refusal != 0) {
            return refuse(refusal);
        }
        for (int steps = 0; steps <= STEPS; steps++) {
            mostBySteps[steps] = 0;
        }
        for (int thing = 0; thing < here.size; thing++) {
            spendSteps(here.at(thing));
        }
        return mostBySteps[m / STEP];
    }

    public int fewDrops() {
        pot.weigh(here, here.now);
        return pot.fewestFor(pot.gainOf(pot.bestBits(MOST_DROPS)));
    }

    public int together(int one, int other, int what) {
        if (here.lacksTwo(one, other)) {
            return refuse(NOBODY);
        }
        if (notOneOfTwo(what)) {
            return refuse(OTHER);
        }
        if (here.at(one).isSet() || here.at(other).isSet()) {
            return refuse(STATE);
        }
        int best = NONE;
        int inYear = NONE;
        for (int year = 0; year < YEARS; year++) {
            int minutes = minutesOfBoth(here.at(one), here.at(other), year);
            if (minutes != NONE && (best == NONE || minutes < best)) {
                best = minutes;
                inYear = year;
            }
        }
        return what == 0 ? best : inYear;
    }

    public int queue(int thing) {
        if (thing != -1 && here.lacks(thing)) {
            return refuse(NOBODY);
        }
        line.arrange(here);
        return thing == -1 ? line.done : line.beginOf(thing);
    }

    public int oneMore() {
        return here.gladTogether(Math.min(here.now + 1, YEARS - 1));
    }

    public int bestYear() {
        int best = 0;
        int bestMost = -1;
        for (int year = 0; year < YEARS; year++) {
            pot.weigh(here, year);
            int most = pot.left + pot.gainOf(pot.bestBits(here.drops));
            if (most > bestMost) {
                best = year;
                bestMost = most;
            }
        }
        return best;
    }

    public int water(int thing) {
        if (here.lacks(thing)) {
            return WATER_REFUSAL - refuse(NOBODY);
        }
        Thing it = here.at(thing);
        if (!it.isSet()) {
            return WATER_REFUSAL - refuse(STATE);
        }
        return it.moreIfWashed(here.now);
    }

    public int bestWash() {
        int best = NONE;
        int bestMore = 0;
        for (int thing = 0; thing < here.size; thing++) {
            int more = here.at(thing).moreIfWashed(here.now);
            if (more > bestMore) {
                best = thing;
                bestMore = more;
            }
        }
        return best;
    }

    public int sour() {
        int bits = 0;
        for (int thing = 0; thing < here.size; thing++) {
            if (here.at(thing).moreIfWashed(here.now) > 0) {
                bits |= 1 << thing;
            }
        }
        return bits;
    }

    public int regret(int thing) {
        if (here.lacks(thing)) {
            return refuse(NOBODY);
        }
        Thing it = here.at(thing);
        int gladdest = it.gladIn(it.gladdestYear(here.now));
        return Math.max(0, gladdest - it.howGlad(here.now));
    }

    public int two(int thing, int minutes) {
        if (here.lacks(thing)) {
            return refuse(NOBODY);
        }
        int refusal = outside(minutes, 0, MOST_MINUTES);
        if (refusal != 0) {
            return refuse(refusal);
        }
        for (int first = 0; first <= 4; first++) {
            for (int other = 0; other <= 4; other++) {
                if (bothContent(here.at(thing), minutes, first, other)) {
                    return 10 * first + other;
                }
            }
        }
        return NONE;
    }

    public long slip(int thing, int n, int t, int year, int part) {
        if (here.lacks(thing) || noYear(year)) {
            return LONG_REFUSAL - refuse(NOBODY);
        }
        int refusal = slipRefusal(n, t, part);
        if (refusal != 0) {
            return LONG_REFUSAL - refuse(refusal);
        }
        slips.weigh(n, t);
        return partOf(slips.waysInto(here.at(thing), year, here.now), slips.allWays(), part);
    }

    public long mean(int thing, int n, int t, int part) {
        if (here.lacks(thing)) {
            return LONG_REFUSAL - refuse(NOBODY);
        }
        int refusal = slipRefusal(n, t, part);
        if (refusal != 0) {
            return LONG_REFUSAL - refuse(refusal);
        }
        slips.weigh(n, t);
        return partOf(slips.gladOfAll(here.at(thing), here.now), slips.allWays(), part);
    }

    public int whatWas(int thing, int what) {
        if (here.lacks(thing)) {
            return refuse(NOBODY);
        }
        if (notOneOfTwo(what)) {
            return refuse(OTHER);
        }
        probe.copyFrom(here.at(thing));
        int most = what == 0 ? THUMB : MOST_FIGURE;
        int bits = 0;
        for (int v = 0; v <= most; v++) {
            if (what == 0) {
                probe.kind = v;
            } else {
                probe.figure = v;
            }
            if (told.tellsYearsOf(probe, here.now)) {
                bits |= 1 << v;
            }
        }
        return bits;
    }

    public int mended(int thing, int year, int minutes) {
        if (here.lacks(thing) || noYear(year)) {
            return refuse(NOBODY);
        }
        int refusal = outside(minutes, 0, MOST_MINUTES);
        if (refusal != 0) {
            return refuse(refusal);
        }
        probe.copyFrom(here.at(thing));
        for (int v = 0; v <= MOST_GLAD; v++) {
            probe.makeGlad(year, v);
            if (probe.yearBy(minutes, 0, here.now) == year) {
                return v;
            }
        }
        return NONE;
    }

    public int row(int v) {
        if (v < 0) {
            return refuse(BELOW);
        }
        if (v > 99 || told.isFull()) {
            return refuse(ROOM);
        }
        told.put(v);
        return told.length;
    }

    public int judge(int thing) {
        if (here.lacks(thing)) {
            return refuse(NOBODY);
        }
        int wrong = told.firstNotGladOf(here.at(thing));
        told.length = 0;
        return wrong;
    }

    public int clear() {
        int had = told.length;
        told.length = 0;
        return had;
    }

    public int lots(int n, int z, int what) {
        int refusal = outside(n, 1, 20);
        if (refusal != 0) {
            return refuse(refusal);
        }
        if (notOneOfTwo(what)) {
            return refuse(OTHER);
        }
        seed = z;
        int all = 0;
        for (int i = 0; i < n; i++) {
            glueByLot();
            all += what == 0 ? trial.gladTogether(trial.now) : trial.countAgreeing();
        }
        return all;
    }

    public int image() {
        then.copyFrom(here);
        hasImage = true;
        return here.now;
    }

    public int on() {
        if (!hasImage) {
            return refuse(STATE);
        }
        here.copyFrom(then);
        return here.now;
    }

    public int count(int what) {
        if (what >= 11 && what <= 16) {
            return refusals[what - 10];
        }
        switch (what) {
            case 0:
                return here.size;
            case 1:
                return here.now;
            case 2:
                return here.drops;
            case 3:
                return here.hands;
            case 4:
                return here.setBits();
            case 5:
                return here.countHalves();
            case 6:
                return told.length;
            case 7:
                return text.length;
            default:
                return NONE;
        }
    }

    private int refuse(int number) {
        if (number < 0 && number >= ROOM) {
            refusals[-number]++;
        }
        return number;
    }

    private static boolean noYear(int year) {
        return year < 0 || year >= YEARS;
    }

    private static boolean notOneOfTwo(int what) {
        return what < 0 || what > 1;
    }

    /** 0: nothing is refused. */
    private static int outside(int v, int least, int most) {
        if (v < least) {
            return BELOW;
        }
        return v > most ? ROOM : 0;
    }

    /** 0: nothing is refused. */
    private int heldRefusal(int thing, int minutes, int press) {
        if (here.lacks(thing)) {
            return NOBODY;
        }
        if (minutes < 0 || press < 0) {
            return BELOW;
        }
        return minutes > MOST_MINUTES || press > MOST_PRESS ? ROOM : 0;
    }

    /** 0: nothing is refused. */
    private static int slipRefusal(int n, int t, int part) {
        if (n < 0 || t < 2) {
            return BELOW;
        }
        if (n > MOST_SLIPS || t > 20) {
            return ROOM;
        }
        return notOneOfTwo(part) ? OTHER : 0;
    }

    /** Tells the letters, which fit, to the trial shop: how many STATEMENTS, or the FAULT of kind 2. */
    private int tellTrial() {
        trial.copyFrom(here);
        int statements = 0;
        int place = 0;
        for (; statements < MOST_LETTERS && place < text.length; statements++) {
            if (!tellStatement(place)) {
                return -2000 - place;
            }
            place = text.behindStatement(place);
        }
        return statements;
    }

    /** False: the STATEMENT is not as it must be, and the trial shop is as before. */
    private boolean tellStatement(int place) {
        int thing = text.number(place + 1, 1);
        switch (text.letterAt(place)) {
            case 't':
                return trial.add(text.kindAt(place + 1), text.number(place + 2, 1));
            case 'g':
                return trial.makeGlad(thing, text.number(place + 2, 2), text.number(place + 2, 2),
                        text.number(place + 4, 2));
            case 'v':
                return trial.makeGlad(thing, text.number(place + 2, 2), text.number(place + 4, 2),
                        text.number(place + 6, 2));
            case 'y':
                return trial.moveTo(text.number(place + 1, 2));
            case 'h':
                return trial.turnHalves(thing, text.number(place + 2, 1));
            case 'd':
                trial.drops = text.number(place + 1, 2);
                return true;
            case 's':
                return trial.glue(thing, text.number(place + 2, 2), text.number(place + 4, 1));
            default:
                return false;
        }
    }

    /** Lets one THING more use the steps of 5 MINUTES, from the most down: below them it is not yet in. */
    private void spendSteps(Thing it) {
        for (int steps = STEPS; steps >= 0; steps--) {
            int best = mostBySteps[steps] + it.howGlad(here.now);
            for (int own = 0; own <= steps && !it.isSet(); own++) {
                int year = it.yearBy(own * STEP, 0, here.now);
                best = Math.max(best, mostBySteps[steps - own] + it.gladIn(year));
            }
            mostBySteps[steps] = best;
        }
    }

    private int minutesOfBoth(Thing one, Thing other, int year) {
        int first = one.fewestFor(year, here.now);
        int second = other.fewestFor(year, here.now);
        return first == NONE || second == NONE ? NONE : first + second;
    }

    /** Whether neither the one who wants a late YEAR nor the one who wants an early one would press otherwise. */
    private boolean bothContent(Thing it, int minutes, int first, int other) {
        int year = it.yearBy(minutes, first + other, here.now);
        for (int press = 0; press <= 4; press++) {
            if (it.yearBy(minutes, press + other, here.now) > year
                    || it.yearBy(minutes, first + press, here.now) < year) {
                return false;
            }
        }
        return true;
    }

    private void glueByLot() {
        trial.copyFrom(here);
        for (int thing = 0; thing < trial.size; thing++) {
            Thing it = trial.at(thing);
            if (!it.isSet()) {
                int minutes = draw(60);
                int press = draw(4);
                it.set = it.yearBy(minutes, press, trial.now);
            }
        }
    }

    private int draw(int m) {
        seed = seed * 1664525 + 1013904223;
        return m < 1 ? 0 : (seed & 0x7fffffff) / 256 % m;
    }

    /** A fraction's part in least terms: 0 above the line, else below it. */
    private static long partOf(long above, long below, int part) {
        long divisor = commonDivisor(above, below);
        if (divisor < 1) {
            return 0;
        }
        return part == 0 ? above / divisor : below / divisor;
    }

    private static long commonDivisor(long one, long other) {
        long a = one;
        long b = other;
        for (int i = 0; i < 1000 && b != 0; i++) {
            long rest = a % b;
            a = b;
            b = rest;
        }
        return a;
    }

    /** One THING; what its KIND does otherwise is told here alone. */
    private static final class Thing {
        private int kind;
        private int figure;
        private int set = NONE;
        private final int[] glad = new int[YEARS];

        private void copyFrom(Thing other) {
            kind = other.kind;
            figure = other.figure;
            set = other.set;
            System.arraycopy(other.glad, 0, glad, 0, YEARS);
        }

        private void begin(int itsKind, int itsFigure) {
            kind = itsKind;
            figure = itsFigure;
            set = NONE;
            for (int year = 0; year < YEARS; year++) {
                glad[year] = 0;
            }
        }

        private boolean isSet() {
            return set != NONE;
        }

        private int gladIn(int year) {
            return year < 0 || year >= YEARS ? 0 : glad[year];
        }

        private void makeGlad(int year, int v) {
            if (year >= 0 && year < YEARS) {
                glad[year] = v;
            }
        }

        private int howGlad(int now) {
            return gladIn(isSet() ? set : now);
        }

        private int moreIfWashed(int now) {
            return gladIn(now) - howGlad(now);
        }

        private int cost() {
            return kind == FONT ? 1 + figure : 1;
        }

        private int reach(int minutes, int press) {
            int reach = Math.max(0, minutes / STEP - press);
            if (kind == DOLL || kind == THUMB) {
                return reach + figure;
            }
            return kind == FONT ? reach / 2 : reach;
        }

        /** The more a YEAR counts, the sooner the THING is SET in it. */
        private int counts(int year, int now) {
            if (kind == THUMB) {
                return -gladIn(year);
            }
            return kind == PLATE ? gladIn(year) - figure * (now - year) : gladIn(year);
        }

        private int yearBy(int minutes, int press, int now) {
            boolean earliest = kind == CHAIR || kind == PLATE;
            int first = Math.max(0, now - reach(minutes, press));
            int best = now;
            int bestCount = counts(now, now);
            for (int year = now - 1; year >= first; year--) {
                int count = counts(year, now);
                if (count > bestCount || earliest && count == bestCount) {
                    best = year;
                    bestCount = count;
                }
            }
            return best;
        }

        private int fewestFor(int year, int now) {
            for (int step = 0; step <= STEPS; step++) {
                if (yearBy(step * STEP, 0, now) == year) {
                    return step * STEP;
                }
            }
            return NONE;
        }

        /** How GLAD it would be at most, GLUED with any MINUTES. */
        private int gladdestBy(int now) {
            int most = 0;
            for (int step = 0; step <= STEPS; step++) {
                most = Math.max(most, gladIn(yearBy(step * STEP, 0, now)));
            }
            return most;
        }

        /** The YEAR up to NOW, whatever the KIND, of several the latest. */
        private int gladdestYear(int now) {
            int best = now;
            for (int year = now - 1; year >= 0; year--) {
                if (gladIn(year) > gladIn(best)) {
                    best = year;
                }
            }
            return best;
        }
    }

    /** All that an IMAGE holds. */
    private static final class Shop {
        private int size;
        private int now;
        private int drops = 20;
        private int hands = 1;
        private final Thing[] things = new Thing[MOST_THINGS];
        /** The other HALVES of each THING, as bits. */
        private final int[] others = new int[MOST_THINGS];

        private Shop() {
            for (int thing = 0; thing < MOST_THINGS; thing++) {
                things[thing] = new Thing();
            }
        }

        private void copyFrom(Shop other) {
            size = other.size;
            now = other.now;
            drops = other.drops;
            hands = other.hands;
            for (int thing = 0; thing < MOST_THINGS; thing++) {
                things[thing].copyFrom(other.things[thing]);
                others[thing] = other.others[thing];
            }
        }

        private boolean lacks(int thing) {
            return thing < 0 || thing >= size || thing >= MOST_THINGS;
        }

        private boolean lacksTwo(int one, int other) {
            return lacks(one) || lacks(other) || one == other;
        }

        /** Any number gets a THING, so that no index goes astray; who asks has looked whether there is such a one. */
        private Thing at(int thing) {
            return things[thing & (MOST_THINGS - 1)];
        }

        private boolean add(int kind, int figure) {
            if (size >= MOST_THINGS) {
                return false;
            }
            at(size).begin(kind, figure);
            size++;
            return true;
        }

        private boolean makeGlad(int thing, int from, int to, int v) {
            if (lacks(thing) || noYear(from) || noYear(to) || from > to) {
                return false;
            }
            for (int year = from; year <= to; year++) {
                at(thing).makeGlad(year, v);
            }
            return true;
        }

        private boolean moveTo(int year) {
            if (noYear(year)) {
                return false;
            }
            now = year;
            return true;
        }

        private boolean areHalves(int one, int other) {
            return !lacksTwo(one, other) && (others[one] >> other & 1) == 1;
        }

        private boolean turnHalves(int one, int other) {
            if (lacksTwo(one, other)) {
                return false;
            }
            others[one] ^= 1 << other;
            others[other] ^= 1 << one;
            return true;
        }

        private boolean glue(int thing, int minutes, int press) {
            if (lacks(thing) || at(thing).isSet() || at(thing).cost() > drops) {
                return false;
            }
            drops -= at(thing).cost();
            at(thing).set = at(thing).yearBy(minutes, press, now);
            return true;
        }

        /** How GLAD all are together, were NOW such a YEAR. */
        private int gladTogether(int year) {
            int all = 0;
            for (int thing = 0; thing < size; thing++) {
                all += at(thing).howGlad(year);
            }
            return all;
        }

        private int setBits() {
            int bits = 0;
            for (int thing = 0; thing < size; thing++) {
                if (at(thing).isSet()) {
                    bits |= 1 << thing;
                }
            }
            return bits;
        }

        private int countHalves() {
            int all = 0;
            for (int one = 0; one < size; one++) {
                for (int other = one + 1; other < size; other++) {
                    all += areHalves(one, other) ? 1 : 0;
                }
            }
            return all;
        }

        private int countAgreeing() {
            int all = 0;
            for (int one = 0; one < size; one++) {
                for (int other = one + 1; other < size; other++) {
                    all += areHalves(one, other) && setInOneYear(one, other) ? 1 : 0;
                }
            }
            return all;
        }

        private int firstApart() {
            for (int one = 0; one < size; one++) {
                for (int other = one + 1; other < size; other++) {
                    if (areHalves(one, other) && !setInOneYear(one, other)) {
                        return 10 * one + other;
                    }
                }
            }
            return NONE;
        }

        private boolean setInOneYear(int one, int other) {
            return at(one).isSet() && at(one).set == at(other).set;
        }
    }

    /** The letters, before they become a SHOP. */
    private static final class Text {
        private final int[] letters = new int[MOST_LETTERS];
        private int length;

        private boolean isFull() {
            return length >= MOST_LETTERS;
        }

        private void put(int letter) {
            if (!isFull()) {
                letters[length] = letter;
                length++;
            }
        }

        /** -1 behind the end. */
        private int letterAt(int place) {
            return place < 0 || place >= length || place >= MOST_LETTERS ? -1 : letters[place];
        }

        private boolean isDigit(int place) {
            return letterAt(place) >= '0' && letterAt(place) <= '9';
        }

        /** Below 0: no letter of a KIND. */
        private int kindAt(int place) {
            int letter = letterAt(place);
            return letter < 0 ? NONE : KIND_LETTERS.indexOf((char) letter);
        }

        private int number(int place, int digits) {
            int number = 0;
            for (int i = 0; i < digits; i++) {
                number = 10 * number + letterAt(place + i) - '0';
            }
            return number;
        }

        /** How many letters a STATEMENT has between its first one and its ";"; 0: none begins so. */
        private int partsOf(int place) {
            switch (letterAt(place)) {
                case 't':
                case 'y':
                case 'h':
                case 'd':
                    return 2;
                case 's':
                    return 4;
                case 'g':
                    return 5;
                case 'v':
                    return 7;
                default:
                    return 0;
            }
        }

        private int behindStatement(int place) {
            return place + partsOf(place) + 2;
        }

        /** The place of the first letter with which no SHOP can go on. */
        private int firstMisfit() {
            if (length == 0) {
                return 0;
            }
            int place = 0;
            for (int statements = 0; statements < MOST_LETTERS && place < length; statements++) {
                int misfit = misfitOfStatement(place);
                if (misfit != NONE) {
                    return misfit;
                }
                place = behindStatement(place);
            }
            return NONE;
        }

        private int misfitOfStatement(int place) {
            int parts = partsOf(place);
            if (parts == 0) {
                return place;
            }
            int next = place + 1;
            if (letterAt(place) == 't') {
                if (kindAt(next) < 0) {
                    return next;
                }
                next++;
            }
            for (; next <= place + parts; next++) {
                if (!isDigit(next)) {
                    return next;
                }
            }
            return letterAt(next) == ';' ? NONE : next;
        }
    }

    /** The ROW of numbers. */
    private static final class Row {
        private final int[] numbers = new int[MOST_IN_ROW];
        private int length;

        private boolean isFull() {
            return length >= MOST_IN_ROW;
        }

        private void put(int v) {
            if (!isFull()) {
                numbers[length] = v;
                length++;
            }
        }

        private boolean tellsYearsOf(Thing it, int now) {
            for (int i = 0; i < length && i < MOST_IN_ROW; i++) {
                if (numbers[i] != it.yearBy(i * STEP, 0, now)) {
                    return false;
                }
            }
            return true;
        }

        private int firstNotGladOf(Thing it) {
            for (int i = 0; i < length && i < MOST_IN_ROW; i++) {
                if (noYear(i) || numbers[i] != it.gladIn(i)) {
                    return i;
                }
            }
            return NONE;
        }
    }

    /** What the DROPS in the pot can do: each THING that is not SET is GLUED at its best, or left. */
    private static final class Pot {
        private final int[] gains = new int[MOST_THINGS];
        private final int[] costs = new int[MOST_THINGS];
        private int barred;
        private int ends;
        /** How GLAD all are with none of them GLUED. */
        private int left;

        private void weigh(Shop shop, int now) {
            barred = shop.setBits();
            ends = 1 << shop.size;
            left = shop.gladTogether(now);
            for (int thing = 0; thing < shop.size && thing < MOST_THINGS; thing++) {
                Thing it = shop.at(thing);
                gains[thing] = it.gladdestBy(now) - it.gladIn(now);
                costs[thing] = it.cost();
            }
        }

        private int gainOf(int bits) {
            return sumOver(bits, gains);
        }

        /** Upwards, and only for more: of several the least bits stay. */
        private int bestBits(int drops) {
            int best = 0;
            int bestGain = 0;
            for (int bits = 0; bits < ends; bits++) {
                if ((bits & barred) == 0 && gainOf(bits) > bestGain && sumOver(bits, costs) <= drops) {
                    best = bits;
                    bestGain = gainOf(bits);
                }
            }
            return best;
        }

        private int fewestFor(int gain) {
            int fewest = MOST_DROPS;
            for (int bits = 0; bits < ends; bits++) {
                if ((bits & barred) == 0 && gainOf(bits) == gain) {
                    fewest = Math.min(fewest, sumOver(bits, costs));
                }
            }
            return fewest;
        }

        private static int sumOver(int bits, int[] numbers) {
            int sum = 0;
            for (int i = 0; i < numbers.length; i++) {
                sum += (bits >> i & 1) == 1 ? numbers[i] : 0;
            }
            return sum;
        }
    }

    /** The QUEUE, with so many HANDS. */
    private static final class Line {
        private final int[] begins = new int[MOST_THINGS];
        private final int[] free = new int[MOST_HANDS];
        private int done;

        private void arrange(Shop shop) {
            done = 0;
            for (int hand = 0; hand < MOST_HANDS; hand++) {
                free[hand] = 0;
            }
            for (int thing = 0; thing < shop.size && thing < MOST_THINGS; thing++) {
                Thing it = shop.at(thing);
                int minutes = it.isSet() ? NONE : it.fewestFor(it.gladdestYear(shop.now), shop.now);
                begins[thing] = minutes == NONE ? NONE : begin(minutes, shop.hands);
            }
        }

        private int begin(int minutes, int hands) {
            int hand = 0;
            for (int other = 1; other < hands && other < MOST_HANDS; other++) {
                if (free[other] < free[hand]) {
                    hand = other;
                }
            }
            int start = free[hand];
            free[hand] = start + minutes;
            done = Math.max(done, free[hand]);
            return start;
        }

        private int beginOf(int thing) {
            return thing < 0 || thing >= MOST_THINGS ? NONE : begins[thing];
        }
    }

    /** In how many ways, of all alike, so many of n times 5 MINUTES count. */
    private static final class Slips {
        private final long[] ways = new long[MOST_SLIPS + 1];

        private void weigh(int n, int t) {
            for (int counted = 1; counted <= MOST_SLIPS; counted++) {
                ways[counted] = 0;
            }
            ways[0] = 1;
            for (int i = 0; i < n; i++) {
                for (int counted = MOST_SLIPS; counted > 0; counted--) {
                    ways[counted] += ways[counted - 1] * (t - 1);
                }
            }
        }

        private long allWays() {
            long all = 0;
            for (int counted = 0; counted <= MOST_SLIPS; counted++) {
                all += ways[counted];
            }
            return all;
        }

        private long waysInto(Thing it, int year, int now) {
            long all = 0;
            for (int counted = 0; counted <= MOST_SLIPS; counted++) {
                all += it.yearBy(counted * STEP, 0, now) == year ? ways[counted] : 0;
            }
            return all;
        }

        private long gladOfAll(Thing it, int now) {
            long all = 0;
            for (int counted = 0; counted <= MOST_SLIPS; counted++) {
                all += ways[counted] * it.gladIn(it.yearBy(counted * STEP, 0, now));
            }
            return all;
        }
    }
}
