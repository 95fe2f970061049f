/** Promises 2 and 3 letter by letter: each letter at each place of each STATEMENT, each number at its edges. */
public final class LettersTest {
    private static final String[] STATEMENTS = {"tt0;", "g00000;", "v0000000;", "y00;", "h01;", "d00;", "s0000;"};
    private static final String KINDS = "tcdpfw";
    private static final String EIGHT = "tt0;tt0;tt0;tt0;tt0;tt0;tt0;tt0;";

    private final Checks checks = new Checks();

    public static void main(String[] args) {
        LettersTest t = new LettersTest();
        t.eachLetterIsTaken();
        t.wrongLetters();
        t.lackingLetters();
        t.kindsAndFigures();
        t.things();
        t.years();
        t.yearsFromTo();
        t.halves();
        t.drops();
        t.glued();
        t.roomForThings();
        t.roomForLetters();
        t.whatLiesAhead();
        t.oneWithNothing();
        t.firstFault();
        t.checks.end("LettersTest");
    }

    private static String two(int v) {
        return (v < 10 ? "0" : "") + v;
    }

    private static Asked after(String... texts) {
        Asked a = new Asked();
        for (String text : texts) {
            a.tell(text);
        }
        return a;
    }

    /** What the last text answers, told behind the others; a FAULT leaves all as it is and counts nothing. */
    private void told(long want, String... texts) {
        Asked a = new Asked();
        for (int i = 0; i + 1 < texts.length; i++) {
            checks.holds("3: comes: " + texts[i], a.tell(texts[i]) > 0);
        }
        String last = texts[texts.length - 1];
        long[] before = facts(a);
        checks.due("3: " + String.join(" then ", texts), a.tell(last), want);
        checks.due("3: letters are no more: " + last, a.ask("count", 7), 0);
        for (int what = 11; what <= 16; what++) {
            checks.due("3: nothing is counted: " + last, a.ask("count", what), 0);
        }
        if (want < 0) {
            long[] behind = facts(a);
            for (int i = 0; i < before.length; i++) {
                checks.due("3: nothing comes: fact " + i + " behind " + last, behind[i], before[i]);
            }
        }
    }

    private static long[] facts(Asked a) {
        long[] facts = new long[7];
        for (int what = 0; what <= 5; what++) {
            facts[what] = a.ask("count", what);
        }
        facts[6] = a.ask("gladness");
        return facts;
    }

    private void eachLetterIsTaken() {
        for (int c = 0; c <= 255; c++) {
            Asked a = new Asked();
            checks.due("2: letter " + c, a.ask("letter", c), 1);
            checks.due("2: letter " + c + ", how many", a.ask("count", 7), 1);
            checks.due("3: letter " + c + " is no SHOP", a.ask("shop"), "tgvyhds".indexOf(c) < 0 ? -1000 : -1001);
        }
    }

    /** Each of the 256 letters where it can not stand, alone and behind a STATEMENT, whatever comes behind it. */
    private void wrongLetters() {
        for (String statement : STATEMENTS) {
            for (int place = 0; place < statement.length(); place++) {
                for (char c = 0; c <= 255; c++) {
                    if (!canStand(statement, place, c)) {
                        String text = statement.substring(0, place) + c + statement.substring(place + 1);
                        told(-1000 - place, text);
                        told(-1000 - 8 - place, "tt0;tt0;" + text);
                        told(-1000 - place, "tt0;tt0;", statement.substring(0, place) + c);
                    }
                }
            }
        }
    }

    private static boolean canStand(String statement, int place, char c) {
        if (place == 0) {
            return "tgvyhds".indexOf(c) >= 0;
        }
        if (statement.charAt(0) == 't' && place == 1) {
            return KINDS.indexOf(c) >= 0;
        }
        return place == statement.length() - 1 ? c == ';' : c >= '0' && c <= '9';
    }

    /** Letters that break off: the place is the end. */
    private void lackingLetters() {
        told(-1000, "");
        told(-1000, "tt0;", "");
        for (String statement : STATEMENTS) {
            for (int end = 1; end < statement.length(); end++) {
                told(-1000 - end, statement.substring(0, end));
                told(-1000 - 8 - end, "tt0;tt0;" + statement.substring(0, end));
                // Up to 96 letters, when there is no room for what lacks.
                told(-1000 - 92 - Math.min(end, 4), "d20;".repeat(23) + statement.substring(0, Math.min(end, 4)));
            }
        }
    }

    private void kindsAndFigures() {
        for (int kind = 0; kind < 6; kind++) {
            for (int figure = 0; figure <= 9; figure++) {
                Asked a = after("t" + KINDS.charAt(kind) + figure + ";");
                checks.due("3: KIND", a.ask("thing", 0, 0), kind);
                checks.due("3: FIGURE", a.ask("thing", 0, 1), figure);
                checks.due("3: not SET", a.ask("thing", 0, 2), -9);
                checks.due("3: GLAD", a.ask("thing", 0, 3), 0);
                checks.due("4: COST", a.ask("thing", 0, 4), kind == 4 ? 1 + figure : 1);
            }
        }
    }

    /** Each THING's digit, with 0 .. 8 THINGS so far. */
    private void things() {
        for (int size = 0; size <= 8; size++) {
            for (int thing = 0; thing <= 9; thing++) {
                String so = "d20;" + EIGHT.substring(0, 4 * size);
                boolean is = thing < size;
                told(is ? 1 : -2000, so, "g" + thing + "0577;");
                told(is ? 1 : -2000, so, "v" + thing + "000577;");
                told(is ? 1 : -2000, so, "s" + thing + "990;");
                told(is && thing != 0 ? 1 : -2000, so, "h0" + thing + ";");
                told(is && thing != 0 ? 1 : -2000, so, "h" + thing + "0;");
            }
        }
    }

    private void years() {
        for (int year = 0; year <= 99; year++) {
            told(year <= 11 ? 1 : -2000, "y" + two(year) + ";");
            told(year <= 11 ? 1 : -2000, "tt0;y01;", "g0" + two(year) + "55;");
        }
        for (int year = 0; year <= 11; year++) {
            Asked a = after("y" + two(year) + ";tt0;tt0;g0" + two(year) + "99;g1" + two(year) + "00;");
            checks.due("3: NOW", a.ask("count", 1), year);
            for (int other = 0; other <= 11; other++) {
                checks.due("3: GLAD in that YEAR alone", a.ask("glad", 0, other), other == year ? 99 : 0);
                checks.due("3: the other not", a.ask("glad", 1, other), 0);
            }
        }
        for (int v = 0; v <= 99; v++) {
            checks.due("3: how GLAD, 2 digits", after("tt0;g011" + two(v) + ";").ask("glad", 0, 11), v);
            checks.due("3: how GLAD, 2 digits", after("tt0;v00011" + two(v) + ";").ask("glad", 0, 5), v);
        }
    }

    private void yearsFromTo() {
        int[] edges = {0, 1, 5, 10, 11, 12, 13, 99};
        for (int from : edges) {
            for (int to : edges) {
                boolean is = from <= to && to <= 11;
                told(is ? 1 : -2000, "tt0;", "v0" + two(from) + two(to) + "42;");
                Asked a = after("tt0;", "v0" + two(from) + two(to) + "42;");
                for (int year = 0; year <= 11; year++) {
                    checks.due("3: in all of these", a.ask("glad", 0, year), is && from <= year && year <= to ? 42 : 0);
                }
            }
        }
    }

    /** All 28 twos of 8 THINGS, told either way, and told again. */
    private void halves() {
        Asked a = after(EIGHT);
        long many = 0;
        for (int one = 0; one < 8; one++) {
            for (int other = one + 1; other < 8; other++) {
                many++;
                a.tell(one % 2 == 0 ? "h" + one + other + ";" : "h" + other + one + ";");
                checks.due("3: HALVES come", a.ask("count", 5), many);
            }
        }
        checks.due("3: 28 HALVES", many, 28);
        checks.due("19: of several the first", a.ask("agree", 1), 1);
        a.tell("h01;h20;");
        checks.due("3: told again, none", a.ask("count", 5), 26);
        checks.due("3: told again the other way, none", a.ask("halves", 0, 2) + a.ask("halves", 1, 0), 0);
        for (int thing = 0; thing <= 9; thing++) {
            told(-2000, EIGHT, "h" + thing + thing + ";");
        }
        told(-2000, EIGHT, "h78;");
        told(1, EIGHT, "h76;");
        told(3, EIGHT, "h76;h67;h76;");
    }

    private void drops() {
        for (int v = 0; v <= 99; v++) {
            checks.due("3: DROPS", after("d" + two(v) + ";").ask("count", 2), v);
        }
        // One less than a FONT COSTS, just so many, one more.
        for (int figure = 0; figure <= 9; figure++) {
            String font = "tf" + figure + ";";
            told(-2000, font + "d" + two(figure) + ";", "s0000;");
            told(1, font + "d" + two(figure + 1) + ";", "s0000;");
            checks.due("3: no DROPS left", after(font + "d" + two(figure + 1) + ";s0000;").ask("count", 2), 0);
            checks.due("3: a DROP left", after(font + "d" + two(figure + 2) + ";s0000;").ask("count", 2), 1);
        }
        told(-2000, "tt0;d00;", "s0000;");
        told(1, "tt0;d01;", "s0000;");
    }

    /** Each number of MINUTES with each PRESS: in YEARS that were the GLADDER the earlier they were. */
    private void glued() {
        String glad = "y11;g01101;g01002;g00903;g00804;g00705;g00606;g00507;g00408;g00309;g00210;g00111;g00012;";
        for (int minutes = 0; minutes <= 99; minutes++) {
            for (int press = 0; press <= 9; press++) {
                Asked a = after("tt0;", glad, "s0" + two(minutes) + press + ";");
                int reach = minutes / 5 > press ? minutes / 5 - press : 0;
                checks.due("3: SET in", a.ask("thing", 0, 2), reach > 11 ? 0 : 11 - reach);
                checks.due("3: COSTS 1", a.ask("count", 2), 19);
            }
        }
    }

    /** The ninth THING is no more, wherever it comes. */
    private void roomForThings() {
        told(8, EIGHT);
        told(-2032, EIGHT + "tt0;");
        told(-2032, EIGHT + "tw9;y05;");
        told(-2000, EIGHT, "tt0;");
        told(-2004, EIGHT, "y05;tt0;");
        told(1, EIGHT.substring(4), "tt0;");
        told(-2004, EIGHT.substring(4), "tt0;tt0;");
        checks.due("3: of 8 none is lost", after(EIGHT, "tt0;").ask("count", 0), 8);
    }

    private void roomForLetters() {
        told(24, "d20;".repeat(24));
        told(24, "y11;", "y00;".repeat(23) + "y05;");
        told(-1096, "d20;".repeat(23) + "v000");
        told(-1095, "d20;".repeat(23) + "d200");
        told(-2092, "d20;".repeat(23) + "y12;");
        Asked a = new Asked();
        a.put("d20;".repeat(23) + "d21;");
        checks.due("2: the 97th letter", a.ask("letter", ';'), -6);
        checks.due("3: the 96 ahead of it", a.ask("shop"), 24);
        checks.due("3: the last one, too", a.ask("count", 2), 21);
    }

    /** Each STATEMENT stands behind all ahead of it, in its text and in those before. */
    private void whatLiesAhead() {
        told(-2000, "g00000;tt0;");
        told(-2000, "s0000;tt0;");
        told(-2000, "h01;tt0;tt0;");
        told(-2004, "tt0;h01;tt0;");
        told(4, "tt0;tt0;h01;g11199;");
        told(-2010, "tt0;s0000;s0000;");
        told(-2000, "tt0;s0000;", "s0000;");
        told(-2018, "d01;tt0;tt0;s0000;s1000;");
        told(6, "d01;tt0;tt0;s0000;d01;s1000;");
        told(-2000, "d01;tt0;tt0;s0000;", "s1000;");
        told(-2008, "tf3;d03;s0000;d04;");
        told(3, "tf3;d04;s0000;");
        // NOW and how GLAD as they are told ahead of it, not behind it.
        checks.due("3: NOW ahead", after("tt0;g00455;y09;y05;s0050;y11;").ask("thing", 0, 2), 4);
        checks.due("3: GLAD ahead", after("tt0;y05;g00455;g00456;g00544;s0050;g00599;").ask("thing", 0, 2), 4);
    }

    private void oneWithNothing() {
        String all = "tt0;tt0;y03;d55;h01;g00377;s0000;";
        told(7, all);
        told(-2000 - all.length(), all + "y12;");
        told(-2000 - all.length(), "tt0;tt0;h01;g00011;", all + "s0000;");
        Asked a = after("tt4;tc5;h01;v0001133;v1001144;y05;s0000;", "d99;y11;h01;v0001199;s1990;tt0;y12;");
        checks.due("3: KIND, FIGURE", a.ask("turn", 0, 0, 4), 4);
        checks.due("3: GLAD", a.ask("glad", 0, 7), 33);
        checks.due("3: SET in", a.ask("thing", 0, 2), 5);
        checks.due("3: not SET", a.ask("thing", 1, 2), -9);
        checks.due("3: HALVES", a.ask("halves", 0, 1), 1);
        checks.due("3: NOW", a.ask("count", 1), 5);
        checks.due("3: DROPS", a.ask("count", 2), 19);
        checks.due("3: no THING more", a.ask("count", 0), 2);
    }

    /** Of several FAULTS: kind 1 wherever it is, else the first STATEMENT. */
    private void firstFault() {
        told(-2000, "y12;y13;");
        told(-2004, "y11;y12;g00000;");
        told(-1007, "y12;y13");
        told(-1008, "y12;y13;;");
        told(-1004, "y12;x");
        told(-1001, "yx;;");
        // Wrong in two ways: it is one STATEMENT, and one place.
        told(-2004, "tt0;v1121100;");
        told(-2004, "tt0;h99;");
    }
}
