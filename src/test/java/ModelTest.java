import java.lang.reflect.InvocationTargetException;
import java.lang.reflect.Method;
import java.lang.reflect.Modifier;
import java.util.ArrayList;
import java.util.Arrays;
import java.util.Comparator;
import java.util.List;

/** Runs of calls by lot, from told seeds: the class answers as the model does, and never throws. */
public final class ModelTest {
    private static final int RUNS = 600;
    private static final int CALLS = 512;
    private static final String[] ODD = {"", ";", "tx0;", "tt;", "tt00;", "y12;", "h00;", "g0120;", "v0050400;", "s000;"};

    private final Checks checks = new Checks();
    private final List<Method> methods = new ArrayList<>();
    private long lot;

    private GluedInLifetime x;
    private Model model;
    private List<String> calls;
    private int left;

    public static void main(String[] args) throws Exception {
        new ModelTest().test();
    }

    private void test() throws Exception {
        for (Method m : GluedInLifetime.class.getDeclaredMethods()) {
            if (Modifier.isPublic(m.getModifiers())) {
                methods.add(m);
            }
        }
        methods.sort(Comparator.comparing(Method::getName));
        for (int run = 0; run < RUNS; run++) {
            lot = run * 7919L + 1;
            checks.holds("run " + run + " is as the model has it", runIsRight(run));
        }
        checks.end("ModelTest");
    }

    private int below(int m) {
        lot = lot * 6364136223846793005L + 1442695040888963407L;
        return (int) ((lot >>> 33) % m);
    }

    private boolean runIsRight(int run) throws Exception {
        x = new GluedInLifetime();
        model = new Model();
        calls = new ArrayList<>();
        left = CALLS;
        int wildness = run % 4 == 0 ? 12 : run % 4 == 1 ? 0 : 3;
        int things = run % 7 == 0 ? 0 : 1 + below(8);
        boolean right = tell(thingsText(things)) && tell(restText(things, 6)) && tell(restText(things, 30));
        while (right && left > 0) {
            right = below(40) == 0 ? tell(thingsText(below(3)) + restText(8, 4)) : someCall(wildness);
        }
        return right;
    }

    private boolean tell(String text) throws Exception {
        int from = 0;
        while (from < text.length()) {
            int to = from;
            while (to < text.length() && (to - from < 85 || text.charAt(to - 1) != ';')) {
                to++;
            }
            for (char c : text.substring(from, to).toCharArray()) {
                if (!same("letter", c)) {
                    return false;
                }
            }
            if (!same("shop")) {
                return false;
            }
            from = to;
        }
        return true;
    }

    private boolean someCall(int wildness) throws Exception {
        Method m = methods.get(below(methods.size()));
        int[] args = new int[m.getParameterCount()];
        for (int i = 0; i < args.length; i++) {
            args[i] = argument(m.getName(), i, wildness);
        }
        return same(m.getName(), args);
    }

    private int argument(String name, int i, int wildness) {
        if (below(100) < wildness) {
            int[] wild = {-1, -2, 8, 9, 10, 11, 12, 20, 21, 99, 100, 255, 256, Integer.MIN_VALUE, Integer.MAX_VALUE};
            return wild[below(wild.length)];
        }
        String ranges;
        switch (name) {
            case "letter": ranges = "128"; break;
            case "thing": ranges = "8 5"; break;
            case "glad": case "fewest": ranges = "8 12"; break;
            case "halves": case "pairs": ranges = "8 8"; break;
            case "turn": ranges = "8 6 10"; break;
            case "makes": ranges = "8 12 100"; break;
            case "mended": ranges = "8 12 100"; break;
            case "now": ranges = "12"; break;
            case "hands": ranges = "5"; break;
            case "pours": case "byMinutes": ranges = "100"; break;
            case "glues": ranges = "8 100 10"; break;
            case "would": ranges = "8 100 10 3"; break;
            case "agree": case "most": ranges = "2"; break;
            case "together": ranges = "8 8 2"; break;
            case "two": ranges = "8 100"; break;
            case "slip": ranges = "8 9 21 12 2"; break;
            case "mean": ranges = "8 9 21 2"; break;
            case "whatWas": ranges = "8 2"; break;
            case "row": ranges = below(2) == 0 ? "12" : "100"; break;
            case "lots": return i == 1 ? below(Integer.MAX_VALUE) - below(Integer.MAX_VALUE) : below(i == 0 ? 21 : 2);
            case "count": ranges = "18"; break;
            default: ranges = "8"; break;
        }
        String[] each = ranges.split(" ");
        // Queues of all are asked for by -1.
        return name.equals("queue") && below(2) == 0 ? -1 : below(Integer.parseInt(each[Math.min(i, each.length - 1)]));
    }

    private String thingsText(int things) {
        StringBuilder s = new StringBuilder();
        for (int i = 0; i < things; i++) {
            s.append('t').append("tcdpfw".charAt(below(6))).append(below(below(2) == 0 ? 10 : 4)).append(';');
        }
        return s.append('y').append(digits(below(12))).append(';').toString();
    }

    /** Mostly STATEMENTS that are as they must be: a FAULT leaves the shop bare. */
    private String restText(int things, int statements) {
        StringBuilder s = new StringBuilder();
        int spread = below(2) == 0 ? 100 : 4;
        for (int i = 0; i < statements && things > 0; i++) {
            int thing = below(things);
            int from = below(12);
            switch (below(20)) {
                case 0: case 1:
                    int other = below(things);
                    s.append(thing != other || below(10) == 0 ? "h" + thing + other + ";" : "");
                    break;
                case 2:
                    s.append('s').append(thing).append(digits(below(100))).append(below(5)).append(';');
                    break;
                case 3:
                    s.append(below(3) == 0 ? "d" + digits(below(100)) + ";" : "");
                    break;
                case 4: case 5: case 6: case 7: case 8: case 9:
                    s.append('v').append(thing).append(digits(from)).append(digits(from + below(12 - from)));
                    s.append(digits(below(spread))).append(';');
                    break;
                default:
                    s.append('g').append(thing).append(digits(from)).append(digits(below(spread))).append(';');
                    break;
            }
        }
        return below(8) == 0 ? s + ODD[below(ODD.length)] : s.toString();
    }

    private static String digits(int v) {
        return (v < 10 ? "0" : "") + v;
    }

    private boolean same(String name, int... args) throws Exception {
        if (left == 0) {
            return true;
        }
        left--;
        calls.add(name + Arrays.toString(args));
        long want = model.call(name, args);
        Object[] boxed = new Object[args.length];
        Class<?>[] types = new Class<?>[args.length];
        for (int i = 0; i < args.length; i++) {
            boxed[i] = args[i];
            types[i] = int.class;
        }
        try {
            long got = ((Number) GluedInLifetime.class.getMethod(name, types).invoke(x, boxed)).longValue();
            if (got != want) {
                System.out.println(String.join(" ", calls) + " answered " + got + ", the model " + want);
            }
            return got == want;
        } catch (InvocationTargetException e) {
            System.out.println(String.join(" ", calls) + " threw " + e.getCause());
            return false;
        }
    }
}
