/**
 * Promises 1 and 4 to 42 at the edges that the document's sentences name: what is empty, what is full, the least and the
 * greatest that can be answered, just enough and one less, and which of several equal ones. All worked out by hand.
 * LettersTest has promises 2 and 3; RefusalsTest has each number's least and greatest, and the order of REFUSALS.
 */
public final class EdgesTest {
    private static final int MIN = Integer.MIN_VALUE;
    private static final int MAX = Integer.MAX_VALUE;
    private static final String EIGHT = "tt0;tt0;tt0;tt0;tt0;tt0;tt0;tt0;";
    private static final String EIGHT_FONTS = "tf9;tf9;tf9;tf9;tf9;tf9;tf9;tf9;";

    private final Checks checks = new Checks();
    private GluedInLifetime x;

    public static void main(String[] args) {
        EdgesTest t = new EdgesTest();
        t.nothingThere();
        t.facts();
        t.eachTwo();
        t.whatWasThere();
        t.dropsJustEnough();
        t.yearsThatThereAre();
        t.setAndWashed();
        t.whichOfSeveral();
        t.plateBelowNothing();
        t.reaches();
        t.canAndFewest();
        t.allGlad();
        t.allAgree();
        t.mostOfAll();
        t.mostOfSeveral();
        t.dropsOfMost();
        t.minutesOfAll();
        t.fewestDrops();
        t.together();
        t.queues();
        t.handsTake();
        t.moreYears();
        t.washing();
        t.regretting();
        t.pressing();
        t.odds();
        t.likelihoodsAreOne();
        t.whatItWas();
        t.mending();
        t.judging();
        t.lotByHand();
        t.lotsOfAll();
        t.images();
        t.fewerThanBefore();
        t.counts();
        t.lastCall();
        t.checks.end("EdgesTest");
    }

    private void due(String what, long got, long want) {
        checks.due(what, got, want);
    }

    private void shop(String... texts) {
        x = new GluedInLifetime();
        for (String text : texts) {
            tell(text);
        }
    }

    private void tell(String text) {
        for (int i = 0; i < text.length(); i++) {
            x.letter(text.charAt(i));
        }
        checks.holds("comes: " + text, x.shop() > 0);
    }

    /** How GLAD a THING was in YEARS 0, 1, .. */
    private void was(int thing, int... glad) {
        for (int year = 0; year < glad.length; year++) {
            x.makes(thing, year, glad[year]);
        }
    }

    /** The GLADDER the earlier, from 12 in YEAR 0 to 1 in YEAR 11: each YEAR of REACH is a better one. */
    private void falling(int thing) {
        was(thing, 12, 11, 10, 9, 8, 7, 6, 5, 4, 3, 2, 1);
    }

    /** Promise 1, and what each call answers where there is nothing. */
    private void nothingThere() {
        x = new GluedInLifetime();
        int[] want = {0, 0, 20, 1, 0, 0, 0, 0};
        for (int what = 0; what < want.length; what++) {
            due("1: count(" + what + ")", x.count(what), want[what]);
        }
        due("3: no letters", x.shop(), -1000);
        due("18: none", x.gladness(), 0);
        due("19: no HALVES", x.agree(0), 0);
        due("19: no HALVES", x.agree(1), -9);
        due("20: none", x.most(0), 0);
        due("20: none", x.most(1), 0);
        due("21: none, 0", x.byMinutes(0), 0);
        due("21: none, 99", x.byMinutes(99), 0);
        due("22: none", x.fewDrops(), 0);
        due("24: none", x.queue(-1), 0);
        due("25: none", x.oneMore(), 0);
        due("26: none", x.bestYear(), 0);
        due("28: none", x.bestWash(), -9);
        due("29: none", x.sour(), 0);
        due("38: no ROW", x.clear(), 0);
        due("39: none, 1", x.lots(1, 0, 0), 0);
        due("39: none, 20", x.lots(20, MIN, 1), 0);
        due("41: no image", x.on(), -3);
        due("40: of nothing", x.image(), 0);
        x.now(11);
        due("41: of nothing", x.on(), 0);
        due("41: NOW", x.count(1), 0);
        for (int what = 11; what <= 16; what++) {
            due("42: refused " + what, x.count(what), what == 13 ? 1 : 0);
        }
    }

    /** Promises 4 and 7: each KIND with each FIGURE. */
    private void facts() {
        shop("tt0;");
        int had = 0;
        for (int kind = 0; kind <= 5; kind++) {
            for (int figure = 0; figure <= 9; figure++) {
                due("7: what it had", x.turn(0, kind, figure), had);
                had = 10 * kind + figure;
                due("4: KIND", x.thing(0, 0), kind);
                due("4: FIGURE", x.thing(0, 1), figure);
                due("4: COST", x.thing(0, 4), kind == 4 ? 1 + figure : 1);
            }
        }
        due("7: the greatest it can have had", x.turn(0, 0, 0), 59);
        shop(EIGHT);
        x.turn(7, 4, 9);
        due("7: the last of 8", x.thing(7, 4), 10);
        for (int thing = 0; thing < 7; thing++) {
            due("7: the others stay", x.turn(thing, 0, 0), 0);
        }
        // A SET one that is turned stays SET in its YEAR, and is GLUED no more.
        shop("tt0;y05;g00566;g00477;s0000;");
        x.turn(0, 5, 9);
        due("7: SET as it was", x.thing(0, 2), 5);
        due("7: GLAD as it was", x.thing(0, 3), 66);
        due("7: DROPS as they were", x.count(2), 19);
        x.makes(0, 5, 11);
        due("8: GLAD as in the YEAR in which it is SET", x.thing(0, 3), 11);
        x.makes(0, 4, 99);
        due("8: not as in another", x.thing(0, 3), 11);
        due("8: not SET anew", x.thing(0, 2), 5);
    }

    /** Promises 6 and 9: each two of 8, either way. */
    private void eachTwo() {
        shop(EIGHT);
        int many = 0;
        for (int one = 0; one < 8; one++) {
            for (int other = one + 1; other < 8; other++) {
                due("6: not yet", x.halves(one, other) + x.halves(other, one), 0);
                due("9: HALVES", (one + other) % 2 == 0 ? x.pairs(one, other) : x.pairs(other, one), 1);
                due("6: either way", 10 * x.halves(one, other) + x.halves(other, one), 11);
                many++;
                due("42: how many", x.count(5), many);
            }
        }
        due("9: all of 8", many, 28);
        for (int one = 7; one > 0; one--) {
            due("9: none any more", x.pairs(one, one - 1), 0);
            due("6: none", x.halves(one - 1, one), 0);
        }
        due("42: the others stay", x.count(5), 21);
        due("6: the least and the greatest", x.halves(7, 0), 1);
    }

    /** Promises 5, 8, 10, 11, 12: what it was, at the least and the greatest. */
    private void whatWasThere() {
        shop(EIGHT);
        for (int year = 0; year <= 11; year++) {
            due("8: 0 at first", x.makes(7, year, 99), 0);
            due("8: the greatest", x.makes(7, year, 0), 99);
            due("8: the least", x.makes(7, year, year), 0);
        }
        for (int year = 0; year <= 11; year++) {
            due("5: each YEAR for itself", x.glad(7, year), year);
            due("5: each THING for itself", x.glad(6, year), 0);
        }
        int was = 0;
        for (int year = 11; year >= 0; year--) {
            due("10: what it was", x.now(year), was);
            was = year;
            due("10: NOW", x.count(1), year);
            due("4: not SET: GLAD as NOW", x.thing(7, 3), year);
        }
        due("10: the same once more", x.now(0), 0);
        due("11: at first", x.hands(2), 1);
        due("11: then", x.hands(3), 2);
        due("11: then", x.hands(4), 3);
        due("11: the greatest", x.hands(4), 4);
        due("11: the greatest", x.hands(1), 4);
        due("12: at first", x.pours(99), 20);
        due("12: the greatest", x.pours(0), 99);
        due("12: the least", x.pours(1), 0);
        due("12: then", x.count(2), 1);
    }

    /** Promise 13: the COST, and one DROP less. */
    private void dropsJustEnough() {
        for (int figure = 0; figure <= 9; figure++) {
            shop("tf" + figure + ";");
            x.pours(figure);
            due("13: one less than 1 and FIGURE", x.glues(0, 0, 0), -3);
            due("13: it is not SET", x.count(4), 0);
            due("13: no DROPS are gone", x.count(2), figure);
            due("13: counted", x.count(13), 1);
            x.pours(figure + 1);
            due("13: 1 and FIGURE", x.glues(0, 0, 0), 0);
            due("13: no DROPS left", x.count(2), 0);
            due("13: SET already", x.glues(0, 0, 0), -3);
            due("13: counted", x.count(13), 2);
        }
        String kinds = "tcdpw";
        for (int i = 0; i < kinds.length(); i++) {
            shop("t" + kinds.charAt(i) + "9;");
            x.pours(0);
            due("13: no DROPS", x.glues(0, 0, 0), -3);
            x.pours(99);
            due("13: COSTS 1", x.glues(0, 0, 0), 0);
            due("13: COSTS 1, whatever the FIGURE", x.count(2), 98);
        }
        shop(EIGHT_FONTS);
        x.pours(80);
        for (int thing = 0; thing < 8; thing++) {
            due("13: each of 8", x.glues(thing, 99, 9), 0);
            due("13: DROPS", x.count(2), 70 - 10 * thing);
        }
        due("42: all SET", x.count(4), 255);
    }

    /** Promise 13: NOW and as many YEARS before it as REACH, those that there are. */
    private void yearsThatThereAre() {
        for (int now = 0; now <= 11; now++) {
            for (int reach = 0; reach <= 19; reach++) {
                shop("tt0;");
                falling(0);
                x.now(now);
                int year = Math.max(0, now - reach);
                due("15: REACH just so far", x.would(0, 5 * reach, 0, 0), year);
                due("15: and up to 4 MINUTES more", x.would(0, 5 * reach + 4, 0, 0), year);
                due("15: how GLAD", x.would(0, 5 * reach, 0, 2), 12 - year);
                due("13: the YEAR", x.glues(0, 5 * reach, 0), year);
                due("13: SET in it", x.thing(0, 2), year);
            }
        }
        // YEARS behind NOW are none of them, however GLAD.
        shop("tt9;tc9;td9;tp9;tf9;tw9;", "y05;v0061199;v1061199;v2061199;v3061199;v4061199;", "v5000555;");
        for (int thing = 0; thing < 6; thing++) {
            checks.holds("15: not behind NOW", x.would(thing, 99, 0, 0) <= 5);
        }
    }

    /** Promises 13, 14: SET, washed, SET once more. */
    private void setAndWashed() {
        shop(EIGHT);
        for (int thing = 0; thing < 8; thing++) {
            x.now(thing + 4);
            due("13: SET NOW", x.glues(thing, 0, 0), thing + 4);
        }
        x.now(0);
        due("42: all SET", x.count(4), 255);
        due("42: DROPS", x.count(2), 12);
        for (int thing = 7; thing >= 0; thing--) {
            due("14: the YEAR in which it was", x.washes(thing), thing + 4);
            due("14: it is not any more", x.washes(thing), -3);
            due("4: not SET", x.thing(thing, 2), -9);
        }
        due("42: none SET", x.count(4), 0);
        due("14: DROPS do not come back", x.count(2), 12);
        due("42: refused", x.count(13), 8);
        due("13: SET in YEAR 0", x.glues(0, 0, 0), 0);
        due("14: YEAR 0", x.washes(0), 0);
        x.now(11);
        due("13: SET in YEAR 11", x.glues(0, 0, 0), 11);
        due("14: YEAR 11", x.washes(0), 11);
    }

    /** Promise 15: of several equal YEARS; REACH 3 from NOW 9 for all (a FONT by twice as many). */
    private void whichOfSeveral() {
        shop("tt0;tc0;td0;tp0;tf0;tw0;y09;");
        int[] minutes = {15, 15, 15, 15, 30, 15};
        int[] same = {9, 6, 9, 6, 9, 9};
        int[] two = {8, 7, 8, 7, 8, 9};
        for (int thing = 0; thing < 6; thing++) {
            due("15: all the same, KIND " + thing, x.would(thing, minutes[thing], 0, 0), same[thing]);
            x.makes(thing, 7, 30);
            x.makes(thing, 8, 30);
            due("15: two the same, KIND " + thing, x.would(thing, minutes[thing], 0, 0), two[thing]);
            x.makes(thing, 5, 99);
            due("15: one more is out of REACH, KIND " + thing, x.would(thing, minutes[thing], 0, 0), two[thing]);
        }
        was(5, 0, 0, 0, 0, 0, 0, 20, 10, 10, 20);
        due("15: w, of two least the latest", x.would(5, 15, 0, 0), 8);
        due("15: w, one of them in REACH", x.would(5, 5, 0, 0), 8);
        x.makes(5, 9, 10);
        due("15: w, NOW is one", x.would(5, 15, 0, 0), 9);
        x.makes(5, 6, 9);
        due("15: w, one less", x.would(5, 15, 0, 0), 6);
    }

    /** Promise 15: a PLATE counts FIGURE less for each YEAR before NOW, below 0 too; how GLAD it is, stays. */
    private void plateBelowNothing() {
        shop("tp9;y11;");
        due("15: -9 is below 0", x.would(0, 5, 0, 0), 11);
        x.makes(0, 10, 8);
        due("15: 8 less 9", x.would(0, 5, 0, 0), 11);
        x.makes(0, 10, 9);
        due("15: 9 less 9, the earliest", x.would(0, 5, 0, 0), 10);
        x.makes(0, 0, 98);
        due("15: 98 less 99", x.would(0, 55, 0, 0), 10);
        x.makes(0, 0, 99);
        due("15: 99 less 99, the earliest", x.would(0, 55, 0, 0), 0);
        due("15: out of REACH", x.would(0, 54, 0, 0), 10);
        due("15: as GLAD as it was", x.would(0, 55, 0, 2), 99);
        due("13: SET", x.glues(0, 55, 0), 0);
        due("4: as GLAD as it was", x.thing(0, 3), 99);
        due("27: washed", x.water(0), -99);
        // NOW counts whole: FIGURE less is none for it.
        shop("tp1;y01;g00150;g00050;");
        due("15: NOW 50, before 49", x.would(0, 5, 0, 0), 1);
        x.makes(0, 0, 51);
        due("15: NOW 50, before 50", x.would(0, 5, 0, 0), 0);
        x.turn(0, 3, 0);
        x.makes(0, 0, 50);
        due("15: FIGURE 0: as a CHAIR", x.would(0, 5, 0, 0), 0);
    }

    /** Promise 15: REACH of each KIND, FIGURE 0 and 9, by the least and the greatest MINUTES and PRESS. */
    private void reaches() {
        String kinds = "tcdpfw";
        int[][] held = {{0, 0}, {4, 0}, {5, 0}, {99, 0}, {0, 9}, {44, 9}, {49, 9}, {50, 9}, {99, 9}, {15, 1}, {10, 2}};
        int[] plain = {0, 0, 1, 19, 0, 0, 0, 1, 10, 2, 0};
        int[] half = {0, 0, 0, 9, 0, 0, 0, 0, 5, 1, 0};
        for (int i = 0; i < held.length; i++) {
            for (int kind = 0; kind < 6; kind++) {
                boolean more = kind == 2 || kind == 5;
                int want = kind == 4 ? half[i] : plain[i];
                shop("t" + kinds.charAt(kind) + "0;t" + kinds.charAt(kind) + "9;");
                String what = "15: " + kinds.charAt(kind) + " by " + held[i][0] + ", " + held[i][1] + ", FIGURE ";
                due(what + "0", x.would(0, held[i][0], held[i][1], 1), want);
                due(what + "9", x.would(1, held[i][0], held[i][1], 1), more ? want + 9 : want);
            }
        }
    }

    /** Promises 16, 17: the least and the greatest bits, the fewest and the most MINUTES. */
    private void canAndFewest() {
        shop("tt0;td9;tf0;tw9;tp9;tc0;");
        for (int thing = 0; thing < 6; thing++) {
            due("16: at NOW 0 that alone", x.can(thing), 1);
            due("17: by none", x.fewest(thing, 0), 0);
            due("17: behind NOW", x.fewest(thing, 1), -9);
            falling(thing);
        }
        was(3, 1, 2, 3, 4, 5, 6, 7, 8, 9, 10, 11, 12);
        x.now(11);
        due("16: t, all 12", x.can(0), 4095);
        due("16: d 9, REACH 9 and more", x.can(1), 1 | 1 << 1 | 1 << 2);
        due("16: f, REACH 9 at most", x.can(2), 4095 - 1 - 2);
        due("16: w 9, REACH 9 and more", x.can(3), 1 | 1 << 1 | 1 << 2);
        due("16: p 9, NOW alone", x.can(4), 1 << 11);
        due("16: c, all 12", x.can(5), 4095);
        for (int year = 0; year <= 11; year++) {
            due("17: t", x.fewest(0, year), 5 * (11 - year));
            due("17: d 9", x.fewest(1, year), year > 2 ? -9 : 5 * (2 - year));
            due("17: f", x.fewest(2, year), year < 2 ? -9 : 10 * (11 - year));
            due("17: w 9", x.fewest(3, year), year > 2 ? -9 : 5 * (2 - year));
            due("17: p 9", x.fewest(4, year), year < 11 ? -9 : 0);
            due("17: c", x.fewest(5, year), 5 * (11 - year));
        }
        x.now(10);
        due("17: behind NOW, the next one", x.fewest(0, 11), -9);
        due("17: NOW", x.fewest(0, 10), 0);
        due("16: not behind NOW", x.can(0), 2047);
        // YEARS in its REACH that are no better are none of them.
        shop("tt0;tc0;y11;");
        due("16: t, all the same: NOW alone", x.can(0), 1 << 11);
        due("16: c, all the same: each", x.can(1), 4095);
        due("17: t, the same", x.fewest(0, 10), -9);
        due("17: c, the same", x.fewest(1, 10), 5);
    }

    /** Promise 18: all of 8, SET or not. */
    private void allGlad() {
        shop(EIGHT);
        for (int thing = 0; thing < 8; thing++) {
            due("18: so many", x.gladness(), 99 * thing);
            x.makes(thing, 0, 99);
        }
        due("18: the greatest", x.gladness(), 792);
        due("25: a YEAR more: none SET", x.oneMore(), 0);
        x.glues(0, 0, 0);
        x.glues(7, 0, 0);
        due("25: a YEAR more: the SET ones alone", x.oneMore(), 198);
        x.now(11);
        due("18: the SET ones alone", x.gladness(), 198);
        x.makes(0, 11, 50);
        due("18: a SET one not as NOW", x.gladness(), 198);
        x.makes(6, 11, 50);
        due("18: another as NOW", x.gladness(), 248);
    }

    /** Promise 19: each of 28 HALVES; SET in one YEAR, in others, one alone, none. */
    private void allAgree() {
        shop(EIGHT);
        for (int one = 0; one < 8; one++) {
            for (int other = one + 1; other < 8; other++) {
                x.pairs(other, one);
                due("19: the only one, 10 the lesser and the other", x.agree(1), 10 * one + other);
                due("19: not SET: none", x.agree(0), 0);
                x.pairs(one, other);
            }
        }
        due("19: none any more", x.agree(1), -9);
        for (int one = 0; one < 8; one++) {
            for (int other = one + 1; other < 8; other++) {
                x.pairs(one, other);
            }
        }
        for (int thing = 0; thing < 8; thing++) {
            due("19: the first two", x.agree(1), thing < 2 ? 1 : thing);
            x.glues(thing, 0, 0);
            due("19: so many", x.agree(0), thing * (thing + 1) / 2);
        }
        due("19: all 28", x.agree(0), 28);
        due("19: none that does not", x.agree(1), -9);
        x.now(1);
        due("19: NOW is no matter", x.agree(0), 28);
        x.washes(7);
        due("19: the last is not SET", x.agree(1), 7);
        x.glues(7, 0, 0);
        due("19: SET in another YEAR", 100 * x.agree(0) + x.agree(1), 2107);
        x.washes(6);
        x.glues(6, 0, 0);
        // 0 .. 5 in YEAR 0, 6 and 7 in YEAR 1.
        due("19: 15 and 1", 100 * x.agree(0) + x.agree(1), 1606);
    }

    /** Promises 20, 22, 26: the most that can be. */
    private void mostOfAll() {
        shop(EIGHT, "y11;v0000099;v1000099;v2000099;v3000099;v4000099;", "v5000099;v6000099;v7000099;");
        due("20: the greatest", x.most(0), 792);
        due("20: all 8", x.most(1), 255);
        due("22: 1 each", x.fewDrops(), 8);
        due("26: YEAR 0 by no DROPS too", x.bestYear(), 0);
        x.pours(8);
        due("20: just enough", x.most(0) * 1000 + x.most(1), 792255);
        x.pours(7);
        due("20: one less, the least bits", x.most(0) * 1000 + x.most(1), 693127);
        x.pours(1);
        due("20: one, the least bits", x.most(0) * 1000 + x.most(1), 99001);
        x.pours(0);
        due("20: none", x.most(0) * 1000 + x.most(1), 0);
        due("22: DROPS in the pot no matter", x.fewDrops(), 8);
        for (int thing = 0; thing < 8; thing++) {
            x.turn(thing, 4, 9);
        }
        due("22: a FONT has REACH 9 at most", x.fewDrops(), 0);
        x.now(9);
        due("22: 10 each", x.fewDrops(), 80);
        x.pours(80);
        due("20: just enough", x.most(0) * 1000 + x.most(1), 792255);
        x.pours(79);
        due("20: one less", x.most(0) * 1000 + x.most(1), 693127);
        x.pours(9);
        due("20: for none", x.most(0) * 1000 + x.most(1), 0);
    }

    /** Promise 20: of several the least bits. */
    private void mostOfSeveral() {
        // Gains 10, 10 by a DROP each; 20 by 2: 3 and 4 are as much.
        shop("tt0;tt0;tf1;y01;g00010;g10010;g20020;d02;");
        due("20: 3 rather than 4", x.most(0) * 1000 + x.most(1), 20003);
        x.makes(2, 0, 21);
        due("20: 4 by 1 more", x.most(0) * 1000 + x.most(1), 21004);
        x.pours(3);
        due("20: 3 DROPS: one of the two, the least", x.most(0) * 1000 + x.most(1), 31005);
        x.pours(4);
        due("20: 4 DROPS", x.most(0) * 1000 + x.most(1), 41007);
        // The dear one first: 2 and 4 rather than 1, though 1 is the lesser.
        shop("tf1;tt0;tt0;y01;g00019;g10010;g20010;d02;");
        due("20: 6 by 1 more", x.most(0) * 1000 + x.most(1), 20006);
        x.makes(0, 0, 20);
        due("20: 1 rather than 6", x.most(0) * 1000 + x.most(1), 20001);
        // No more GLAD by being GLUED: left.
        shop("tt0;tw0;tp9;y01;g00150;g00050;g10150;g10040;g20150;g20058;");
        due("20: left rather, by the least bits", x.most(0) * 1000 + x.most(1), 150000);
        x.makes(2, 0, 59);
        due("20: by a DROP", x.most(0) * 1000 + x.most(1), 159004);
        x.makes(1, 0, 51);
        due("20: a THUMB is SET in the least GLAD", x.most(0) * 1000 + x.most(1), 159004);
        // A DOLL that passes over the best one: 5 by REACH 2, but 1 is as GLAD.
        shop("td2;y05;g00399;g00550;");
        due("20: a DOLL, by no MINUTES", x.most(0) * 1000 + x.most(1), 99001);
        shop("tw2;y05;v0000599;g00344;");
        due("20: a THUMB left", x.most(0) * 1000 + x.most(1), 99000);
    }

    /** Promises 20, 22: SET ones take no DROPS and are as GLAD as they are. */
    private void dropsOfMost() {
        shop("tt0;tf3;tt0;y01;g00050;g10070;g20030;s0000;d05;");
        due("20: the two others", x.most(0) * 1000 + x.most(1), 100006);
        due("22: 1 and 4", x.fewDrops(), 5);
        x.pours(4);
        due("20: the FONT", x.most(0) * 1000 + x.most(1), 70002);
        x.pours(3);
        due("20: the other", x.most(0) * 1000 + x.most(1), 30004);
        due("22: whatever there are", x.fewDrops(), 5);
        x.washes(0);
        due("20: the one that is washed", x.most(0) * 1000 + x.most(1), 80005);
        due("22: one more", x.fewDrops(), 6);
        x.pours(99);
        x.glues(0, 5, 0);
        x.glues(1, 10, 0);
        x.glues(2, 5, 0);
        due("20: all SET", x.most(0) * 1000 + x.most(1), 150000);
        due("22: all SET", x.fewDrops(), 0);
        // As much by fewer DROPS: the FONT is no better than NOW.
        shop("tf9;tt0;y01;g00150;g00050;g10060;");
        due("22: what helps alone", x.fewDrops(), 1);
    }

    /** Promise 21: the least that helps, one less, and 99. */
    private void minutesOfAll() {
        shop(EIGHT, "y11;g00810;g10810;g20810;g30810;g40810;g50810;", "g60810;g70810;d00;");
        due("21: 0", x.byMinutes(0), 0);
        due("21: one less than 15", x.byMinutes(14), 0);
        for (int i = 1; i <= 6; i++) {
            due("21: 15 each", x.byMinutes(15 * i), 10 * i);
            due("21: one less", x.byMinutes(15 * i - 1), 10 * i - 10);
        }
        due("21: 99, not 105", x.byMinutes(99), 60);
        x.turn(0, 4, 0);
        due("21: a FONT by 30", x.byMinutes(99), 60);
        x.makes(0, 8, 0);
        x.makes(0, 2, 99);
        due("21: a FONT by 90", x.byMinutes(90), 99);
        due("21: one less", x.byMinutes(89), 50);
        due("21: 99", x.byMinutes(99), 99);
        x.makes(1, 10, 5);
        due("21: 94", x.byMinutes(94), 99);
        due("21: 95", x.byMinutes(95), 104);
        // Of all together, left as they are too.
        shop("tt0;tw0;tt0;y02;g00230;g10240;g20250;g00131;g10199;g20052;");
        due("21: left", x.byMinutes(4), 120);
        due("21: the one", x.byMinutes(5), 121);
        due("21: the other", x.byMinutes(10), 122);
        due("21: both", x.byMinutes(15), 123);
        x.glues(2, 0, 0);
        due("21: a SET one is GLUED no more", x.byMinutes(99), 121);
        x.now(0);
        due("21: a SET one as it is, the others as NOW", x.byMinutes(99), 50);
        // The greatest: all of 8 by no MINUTES, DOLLS that reach a YEAR back.
        shop("td1;td1;td1;td1;td1;td1;td1;td1;y01;", "g00099;g10099;g20099;g30099;g40099;g50099;g60099;g70099;");
        due("21: the greatest", x.byMinutes(0), 792);
    }

    /** Promise 22: the least and what is as much. */
    private void fewestDrops() {
        shop("tt0;tf9;y01;g00001;d00;");
        due("22: 1", x.fewDrops(), 1);
        x.makes(1, 0, 1);
        due("22: 11", x.fewDrops(), 11);
        x.makes(0, 1, 1);
        due("22: 10", x.fewDrops(), 10);
        x.makes(1, 1, 1);
        due("22: 0", x.fewDrops(), 0);
        x.now(0);
        x.makes(0, 0, 99);
        due("22: at NOW 0", x.fewDrops(), 0);
    }

    /** Promise 23: the fewest of all, the most, none. */
    private void together() {
        shop("tf0;tf0;tt0;td9;tw0;y11;");
        falling(0);
        falling(1);
        falling(2);
        falling(3);
        due("23: NOW by none", x.together(0, 1, 0) * 100 + x.together(0, 1, 1), 11);
        // REACH 9 by none: the YEAR 2 is 90 for a FONT, 45 for a THING.
        due("23: a FONT and a DOLL", x.together(0, 3, 0) * 100 + x.together(0, 3, 1), 9002);
        due("23: a THING and a DOLL", x.together(3, 2, 0) * 100 + x.together(3, 2, 1), 4502);
        x.turn(2, 4, 9);
        x.makes(0, 11, 0);
        x.makes(0, 10, 0);
        due("23: NOW still", x.together(0, 2, 1), 11);
        x.now(1);
        due("23: a DOLL in 0, a FONT in 1 or 0", x.together(1, 3, 0) * 100 + x.together(1, 3, 1), 1000);
        was(4, 0, 9);
        due("23: a THUMB in 1 or 0", x.together(4, 1, 0) * 100 + x.together(4, 1, 1), 1);
        due("23: a THUMB and a DOLL", x.together(4, 3, 0) * 100 + x.together(4, 3, 1), 500);
        was(4, 9, 0);
        due("23: no YEAR", x.together(4, 3, 0), -9);
        due("23: no YEAR", x.together(3, 4, 1), -9);
        // Two FONTS, neither ever NOW: the most MINUTES.
        shop("tw9;tf0;y11;");
        was(0, 99, 99, 0, 99, 99, 99, 99, 99, 99, 99, 99, 99);
        falling(1);
        due("23: 90 and 0", x.together(1, 0, 0) * 100 + x.together(1, 0, 1), 9002);
        x.glues(0, 0, 0);
        due("23: the one is SET", x.together(0, 1, 0), -3);
        due("23: the other is SET", x.together(1, 0, 1), -3);
        x.washes(0);
        x.glues(1, 0, 0);
        due("23: the other is SET", x.together(0, 1, 0), -3);
    }

    /** Promise 24: none, one, 8; the longest. */
    private void queues() {
        shop(EIGHT_FONTS, "y09;g00001;g10001;g20001;g30001;g40001;g50001;g60001;g70001;");
        due("24: 8 by 90, one HAND", x.queue(-1), 720);
        due("24: the first", x.queue(0), 0);
        due("24: the last", x.queue(7), 630);
        x.hands(2);
        due("24: two HANDS", x.queue(-1) * 1000 + x.queue(7), 360270);
        x.hands(3);
        due("24: three HANDS", x.queue(-1) * 1000 + x.queue(7), 270180);
        x.hands(4);
        due("24: four HANDS", x.queue(-1) * 1000 + x.queue(7), 180090);
        due("24: the fourth at once", x.queue(3), 0);
        due("24: the fifth then", x.queue(4), 90);
        due("24: DROPS no matter", x.pours(0), 20);
        due("24: DROPS no matter", x.queue(-1), 180);
        x.now(10);
        due("24: out of REACH, all left out", x.queue(-1), 0);
        for (int thing = 0; thing < 8; thing++) {
            due("24: left out", x.queue(thing), -9);
        }
        x.now(9);
        x.pours(99);
        for (int thing = 0; thing < 8; thing++) {
            x.glues(thing, 0, 0);
            due("24: SET", x.queue(thing), -9);
        }
        due("24: all SET", x.queue(-1), 0);
        shop("tt0;tc0;tf0;y11;");
        falling(0);
        due("24: the most of a THING", x.queue(-1), 55);
        due("24: by none begins at its end", x.queue(1), 55);
    }

    /** Promise 24: the HAND that is free first, of several the least; who is left out takes none. */
    private void handsTake() {
        // MINUTES 20, 5, 5, none, SET, 10, 15.
        shop("tt0;tt0;tt0;tw0;tt0;tt0;tt0;y10;", "g00620;g10920;g20920;v3000920;g31010;g40020;g50820;g60720;s4000;");
        x.makes(3, 10, 30);
        x.makes(3, 9, 40);
        due("24: one HAND", x.queue(-1), 55);
        x.hands(2);
        // HAND 0: 20; HAND 1: 5, 5 to 10, 10 to 20; then HAND 0 at 20: 35.
        due("24: two HANDS", x.queue(-1), 35);
        int[] begins = {0, 0, 5, -9, -9, 10, 20};
        for (int thing = 0; thing < begins.length; thing++) {
            due("24: two HANDS, " + thing, x.queue(thing), begins[thing]);
        }
        x.hands(3);
        // HAND 0: 20; HANDS 1, 2: 5; 1 to 15; 2 to 20.
        due("24: three HANDS", x.queue(-1), 20);
        int[] ofThree = {0, 0, 0, -9, -9, 5, 5};
        for (int thing = 0; thing < ofThree.length; thing++) {
            due("24: three HANDS, " + thing, x.queue(thing), ofThree[thing]);
        }
        // Up to NOW, the latest of several; a CHAIR is then left out, or not.
        shop("tc0;tt0;y10;v0081050;v1091050;g11199;");
        due("24: a CHAIR at NOW by none", x.queue(0) * 100 + x.queue(-1), 0);
        x.makes(0, 10, 40);
        due("24: a CHAIR in 9 by 5", x.queue(-1), 5);
        x.makes(1, 10, 49);
        due("24: a THING in 9 by 5", x.queue(-1) * 100 + x.queue(1), 1005);
    }

    /** Promises 25, 26: YEARS 0 and 11. */
    private void moreYears() {
        shop("tt0;tt0;g00099;g00111;g01001;g01102;g11103;");
        due("25: from 0 to 1", x.oneMore(), 11);
        x.now(10);
        due("25: from 10 to 11", x.oneMore(), 5);
        due("18: NOW is as it was", x.gladness(), 1);
        x.now(11);
        due("25: 11 at most", x.oneMore(), 5);
        x.pours(0);
        due("26: YEAR 0, no DROPS", x.bestYear(), 0);
        x.pours(1);
        due("26: YEAR 11, a DROP", x.bestYear(), 11);
        x.makes(1, 11, 0);
        due("26: as much from 0 on", x.bestYear(), 0);
        x.makes(1, 11, 3);
        x.glues(0, 55, 0);
        x.pours(0);
        due("26: it is SET in 0 whatever NOW is", x.bestYear(), 11);
        x.makes(1, 11, 0);
        due("26: all the same", x.bestYear(), 0);
        due("42: NOW is as it was", x.count(1), 11);
        shop("tp9;y11;g00550;g01150;d00;");
        due("26: of several the earliest", x.bestYear(), 5);
        x.makes(0, 11, 51);
        due("26: the greatest YEAR", x.bestYear(), 11);
        shop("tw0;tt0;g00050;g10150;");
        due("26: 50 and 0, or a DROP", x.bestYear(), 0);
        x.makes(1, 1, 51);
        due("26: 51", x.bestYear(), 1);
    }

    /** Promises 27, 28, 29: from -99 to 99; the least of several; all of 8. */
    private void washing() {
        shop(EIGHT, "s0000;s1000;s2000;s3000;s4000;s5000;s6000;s7000;");
        for (int thing = 0; thing < 8; thing++) {
            due("27: as it is", x.water(thing), 0);
            x.makes(thing, 5, 99);
        }
        due("28: none makes it more", x.bestWash(), -9);
        due("29: none", x.sour(), 0);
        x.now(5);
        due("29: all 8", x.sour(), 255);
        due("28: of several the least", x.bestWash(), 0);
        due("27: the greatest", x.water(7), 99);
        for (int thing = 0; thing < 7; thing++) {
            x.makes(thing, 0, 99);
        }
        due("28: the last", x.bestWash(), 7);
        due("29: the last", x.sour(), 128);
        due("27: as GLAD", x.water(0), 0);
        x.makes(7, 5, 0);
        due("28: none", x.bestWash(), -9);
        x.now(6);
        due("27: the least", x.water(0), -99);
        due("28: below 0 is not more", x.bestWash(), -9);
        due("29: below 0 is none", x.sour(), 0);
        x.makes(7, 6, 1);
        due("28: by 1", x.bestWash(), 7);
        due("29: by 1", x.sour(), 128);
        x.washes(7);
        due("29: not SET ones are as GLAD as NOW", x.sour(), 0);
        due("28: not SET ones are none", x.bestWash(), -9);
        due("42: washed as told alone", x.count(4), 127);
        due("27: it is not SET", x.water(7), 1000000003);
    }

    /** Promise 30: from 0 to 99; up to NOW and no more. */
    private void regretting() {
        shop("tt0;td0;g00199;g01150;g10060;");
        due("30: not yet", x.regret(0), 0);
        x.now(1);
        due("30: NOW itself", x.regret(0), 0);
        x.now(2);
        due("30: the greatest", x.regret(0), 99);
        x.now(11);
        due("30: less NOW's", x.regret(0), 49);
        due("30: YEAR 0", x.regret(1), 60);
        x.glues(0, 0, 0);
        due("30: SET in 11", x.regret(0), 49);
        x.now(0);
        due("30: 0 at least", x.regret(0), 0);
        x.now(11);
        x.washes(0);
        x.glues(0, 50, 0);
        due("30: SET in the best", x.thing(0, 2), 1);
        due("30: none", x.regret(0), 0);
        // A PLATE, a THUMB: as GLAD as they were told.
        shop("tp9;tw0;y11;g00099;g10099;");
        due("30: a PLATE", x.regret(0), 99);
        due("30: a THUMB", x.regret(1), 99);
    }

    /** Promise 31: the least and the greatest pair, MINUTES 0 and 99. */
    private void pressing() {
        shop("tt0;td9;tw9;tf0;y11;");
        falling(0);
        falling(1);
        was(2, 1, 2, 3, 4, 5, 6, 7, 8, 9, 10, 11, 12);
        falling(3);
        due("31: no MINUTES", x.two(0, 0), 0);
        due("31: 99: REACH 11 and more by all", x.two(0, 99), 0);
        // REACH n less both: the first's PRESS helps as long as there is REACH to lose.
        due("31: 5", x.two(0, 5), 10);
        due("31: 10", x.two(0, 10), 20);
        due("31: 15", x.two(0, 15), 30);
        due("31: 19", x.two(0, 19), 30);
        due("31: 20", x.two(0, 20), 40);
        due("31: 55", x.two(0, 55), 40);
        due("31: 74: REACH 14 less 4 is 10", x.two(0, 74), 40);
        due("31: 75: REACH 15 less 4 is 11", x.two(0, 75), 0);
        due("31: a DOLL, 9 more", x.two(1, 10), 20);
        due("31: a THUMB, 9 more", x.two(2, 10), 20);
        due("31: a DOLL, all in YEAR 0", x.two(1, 99), 0);
        // A FONT: half: 4 by 2, 3 and 2 by 1, 1 by 0.
        due("31: a FONT, REACH 4", x.two(3, 20), 30);
        due("31: a FONT, REACH 5", x.two(3, 25), 40);
        x.now(0);
        due("31: NOW 0", x.two(0, 50), 0);
        x.now(11);
        x.glues(0, 99, 0);
        due("31: though it is SET", x.two(0, 20), 40);
    }

    private void fraction(String what, int n, int t, int year, long above, long below) {
        due(what + " above", x.slip(0, n, t, year, 0), above);
        due(what + " below", x.slip(0, n, t, year, 1), below);
    }

    /** Promises 32, 33: n 0 and 8, t 2 and 20. */
    private void odds() {
        shop("tt0;y11;");
        falling(0);
        fraction("32: n 0, NOW", 0, 2, 11, 1, 1);
        fraction("32: n 0, another", 0, 20, 10, 0, 1);
        fraction("32: n 1, slipped", 1, 2, 11, 1, 2);
        fraction("32: n 1, counted", 1, 2, 10, 1, 2);
        fraction("32: t 20, slipped", 1, 20, 11, 1, 20);
        fraction("32: t 20, counted", 1, 20, 10, 19, 20);
        fraction("32: 8, all slipped", 8, 2, 11, 1, 256);
        fraction("32: 8, none slipped", 8, 2, 3, 1, 256);
        fraction("32: 8, 4 slipped: 70 of 256", 8, 2, 7, 35, 128);
        fraction("32: 8, out of REACH", 8, 2, 2, 0, 1);
        fraction("32: 8 by 20, none slipped: 19 to the 8th", 8, 20, 3, 16983563041L, 25600000000L);
        fraction("32: 8 by 20, one slipped: 8 times 19 to the 7th", 8, 20, 4, 893871739L, 3200000000L);
        due("33: n 0", x.mean(0, 0, 2, 0) * 10 + x.mean(0, 0, 2, 1), 11);
        // n times (t - 1) by t more than 1: 5; 1 and 152 by 20, 8 and 3 by 5.
        due("33: 8 by 2", x.mean(0, 8, 2, 0) * 100 + x.mean(0, 8, 2, 1), 501);
        due("33: 8 by 20", x.mean(0, 8, 20, 0) * 100 + x.mean(0, 8, 20, 1), 4305);
        due("33: 1 by 20", x.mean(0, 1, 20, 0) * 100 + x.mean(0, 1, 20, 1), 3920);
        due("33: 1 by 2", x.mean(0, 1, 2, 0) * 100 + x.mean(0, 1, 2, 1), 302);
        was(0, 99, 99, 99, 99, 99, 99, 99, 99, 99, 99, 99, 99);
        fraction("32: surely NOW", 8, 20, 11, 1, 1);
        due("33: the greatest", x.mean(0, 8, 20, 0) * 100 + x.mean(0, 8, 20, 1), 9901);
        was(0, 0, 0, 0, 0, 0, 0, 0, 0, 0, 0, 0, 0);
        due("33: the least, 0 by 1", x.mean(0, 8, 20, 0) * 100 + x.mean(0, 8, 20, 1), 1);
        x.turn(0, 2, 9);
        x.makes(0, 2, 7);
        fraction("32: a DOLL, 9 more", 0, 2, 2, 1, 1);
        x.now(0);
        fraction("32: at NOW 0", 8, 2, 0, 1, 1);
        x.glues(0, 0, 0);
        x.now(11);
        fraction("32: though it is SET in 0", 8, 2, 2, 1, 1);
        due("33: though it is SET in 0", x.mean(0, 8, 2, 0), 7);
    }

    /** Promise 32: over all YEARS it is 1, for each n and t. */
    private void likelihoodsAreOne() {
        for (int n = 0; n <= 8; n++) {
            for (int t = 2; t <= 20; t += 6) {
                shop("tt0;y11;");
                falling(0);
                long all = 1;
                for (int i = 0; i < n; i++) {
                    all *= t;
                }
                long sum = 0;
                for (int year = 0; year <= 11; year++) {
                    long below = x.slip(0, n, t, year, 1);
                    checks.holds("32: divides all", all % below == 0);
                    sum += x.slip(0, n, t, year, 0) * (all / below);
                }
                due("32: n " + n + ", t " + t, sum, all);
            }
        }
    }

    /** Promise 34: no ROW, one number, 16 of them. */
    private void whatItWas() {
        shop("tt5;");
        due("34: no ROW", x.whatWas(0, 0) * 10000 + x.whatWas(0, 1), 631023);
        for (int i = 1; i <= 16; i++) {
            x.row(0);
            due("34: at NOW 0, " + i, x.whatWas(0, 0) * 10000 + x.whatWas(0, 1), 631023);
        }
        x.clear();
        for (int i = 1; i <= 15; i++) {
            x.row(0);
        }
        x.row(1);
        due("34: the last of 16 is not so", x.whatWas(0, 0) * 10000 + x.whatWas(0, 1), 0);
        shop("td0;y11;");
        falling(0);
        for (int i = 0; i < 16; i++) {
            x.row(Math.max(0, 11 - i));
        }
        // A CHAIR, a THING, a DOLL 0, a PLATE 0: each YEAR of REACH is a better one.
        due("34: by 0, 5, 10 .. 75", x.whatWas(0, 0), 1 | 1 << 1 | 1 << 2 | 1 << 3);
        due("34: d 0 alone", x.whatWas(0, 1), 1);
        due("34: KIND stays", x.thing(0, 0) * 10 + x.thing(0, 1), 20);
        x.turn(0, 3, 0);
        due("34: p 0 and 1: as GLAD is the earliest", x.whatWas(0, 1), 3);
        x.clear();
        x.row(2);
        due("34: by 0 in 2: d, w with FIGURE 0 are not", x.whatWas(0, 0), 0);
        x.turn(0, 2, 9);
        due("34: by 0 in 2: d 9", x.whatWas(0, 0) * 10000 + x.whatWas(0, 1), 40000 + 512);
        x.clear();
        x.row(99);
        due("34: 99 is no YEAR", x.whatWas(0, 0) + x.whatWas(0, 1), 0);
        x.clear();
        x.row(11);
        x.glues(0, 0, 0);
        due("34: SET in 2, asked as if not", x.whatWas(0, 0), 63 - (1 << 2));
        due("42: the ROW stays", x.count(6), 1);
    }

    /** Promise 35: 0, 99, and what would be 100. */
    private void mending() {
        shop("tt0;tc0;tp9;tw0;td9;tf0;y11;", "g01198;g11199;g20011;g31198;g51150;");
        due("35: 99", x.mended(0, 10, 5), 99);
        due("35: one MINUTE less", x.mended(0, 10, 4), -9);
        due("35: NOW, 0 is enough", x.mended(0, 11, 99), 0);
        x.makes(0, 11, 99);
        due("35: 100 would be", x.mended(0, 10, 5), -9);
        due("35: a CHAIR, as much is enough", x.mended(1, 10, 5), 99);
        due("35: a CHAIR, NOW more than 0", x.mended(1, 11, 5), 1);
        due("35: a CHAIR, NOW alone", x.mended(1, 11, 4), 0);
        due("35: a PLATE, 9 less: as much as 0", x.mended(2, 10, 5), 9);
        due("35: a PLATE, 99 less", x.mended(2, 0, 55), 99);
        x.makes(2, 11, 1);
        due("35: a PLATE, 100 would be", x.mended(2, 0, 55), -9);
        due("35: a PLATE, 10 YEARS: 91", x.mended(2, 1, 50), 91);
        due("35: a THUMB, 0", x.mended(3, 10, 5), 0);
        x.makes(3, 11, 0);
        due("35: a THUMB, as little is not enough", x.mended(3, 10, 5), -9);
        due("35: a THUMB, NOW 0", x.mended(3, 11, 5), 0);
        due("35: a DOLL by none", x.mended(4, 2, 0), 1);
        due("35: a DOLL, one farther", x.mended(4, 1, 4), -9);
        due("35: a DOLL, one farther by 5", x.mended(4, 1, 5), 1);
        due("35: a FONT, half of 1", x.mended(5, 10, 9), -9);
        due("35: a FONT, half of 2", x.mended(5, 10, 10), 51);
        due("35: a FONT, half of 19", x.mended(5, 2, 99), 51);
        due("35: a FONT, out of REACH", x.mended(5, 1, 99), -9);
        x.now(10);
        due("35: behind NOW", x.mended(0, 11, 99), -9);
        x.glues(0, 0, 0);
        due("35: though it is SET", x.mended(0, 9, 5), 1);
        due("35: nothing is mended", x.glad(0, 9), 0);
    }

    /** Promises 36, 37, 38: none, 12, 13, 16 numbers; the first that is not so. */
    private void judging() {
        shop("tt0;tt0;");
        was(0, 0, 99, 2, 3, 4, 5, 6, 7, 8, 9, 10, 11);
        due("37: no ROW", x.judge(0), -9);
        for (int wrong = 0; wrong <= 11; wrong++) {
            for (int year = 0; year <= 11; year++) {
                due("36: so many", x.row(year == wrong ? 50 : x.glad(0, year)), year + 1);
            }
            due("37: the first that is not so", x.judge(0), wrong);
            due("37: none then", x.count(6), 0);
        }
        for (int many = 12; many <= 16; many++) {
            shop("tt0;");
            for (int i = 0; i < many; i++) {
                x.row(0);
            }
            due("37: NOBODY, it stays", x.judge(1), -1);
            due("37: it stays", x.count(6), many);
            due("37: beyond 11", x.judge(0), many == 12 ? -9 : 12);
            due("37: none then", x.clear(), 0);
        }
        for (int many = 0; many <= 16; many++) {
            shop();
            for (int i = 0; i < many; i++) {
                x.row(99);
            }
            due("38: how many", x.clear(), many);
            due("38: none then", x.count(6) + x.clear(), 0);
        }
    }

    /**
     * Promise 39: from z 0 the DRAWS are 1013904223 (23 of 60), 1196435762 (1 of 4), then -775096599, that is
     * 1372387049 without its sign (6 of 60), -1426500812, that is 720982836 (3 of 4).
     */
    private void lotByHand() {
        shop("tt0;y11;");
        falling(0);
        // MINUTES 23, PRESS 1: REACH 3, YEAR 8, GLAD 4.
        due("39: one shop", x.lots(1, 0, 0), 4);
        // MINUTES 6, PRESS 3: REACH 0, YEAR 11, GLAD 1.
        due("39: z goes on from shop to shop", x.lots(2, 0, 0), 5);
        due("39: z goes on from where it is told", x.lots(1, 1196435762, 0), 1);
        due("39: each time anew", x.lots(1, 0, 0), 4);
        tell("tt0;h01;");
        falling(1);
        due("39: by numbers", x.lots(1, 0, 0), 5);
        due("39: YEARS 8 and 11", x.lots(1, 0, 1), 0);
        x.pours(0);
        due("39: DROPS no matter", x.lots(1, 0, 0), 5);
        x.pours(20);
        x.glues(0, 55, 0);
        // THING 0 is SET in 0, GLAD 12: the first two DRAWS are the other's.
        due("39: a SET one takes no DRAWS", x.lots(1, 0, 0), 16);
        due("39: nothing is SET", x.count(4), 1);
        for (int z : new int[] {MIN, -1, 1, MAX}) {
            shop("tt0;y11;");
            falling(0);
            long next = (z * 1664525L + 1013904223L) & 0xffffffffL;
            long then = (next * 1664525L + 1013904223L) & 0xffffffffL;
            long reach = Math.max(0, next % 0x80000000L / 256 % 60 / 5 - then % 0x80000000L / 256 % 4);
            due("39: z " + z + " wraps around", x.lots(1, z, 0), 1 + reach);
        }
        // A THUMB, SET in the least GLAD: by REACH 3 in YEAR 8, too.
        shop("tw0;y11;");
        was(0, 1, 2, 3, 4, 5, 6, 7, 8, 9, 10, 11, 12);
        due("39: each by its KIND", x.lots(1, 0, 0), 9);
    }

    /** Promise 39: the greatest. */
    private void lotsOfAll() {
        shop(EIGHT, "v0001199;v1001199;v2001199;v3001199;v4001199;v5001199;", "v6001199;v7001199;");
        for (int one = 0; one < 8; one++) {
            for (int other = one + 1; other < 8; other++) {
                x.pairs(one, other);
            }
        }
        for (int z : new int[] {MIN, -1, 0, 1, MAX}) {
            due("39: 20 times 8 times 99", x.lots(20, z, 0), 15840);
            due("39: 20 times 28, all NOW", x.lots(20, z, 1), 560);
            due("39: one shop", x.lots(1, z, 0) + x.lots(1, z, 1), 792 + 28);
        }
        due("39: nothing is SET", x.count(4), 0);
        x.now(11);
        x.glues(7, 0, 0);
        x.now(0);
        due("39: one is SET in another YEAR", x.lots(20, 5, 1), 20 * 21);
    }

    /** Promises 40, 41: of nothing, of all, one behind another, from which one goes on more than once. */
    private void images() {
        shop();
        x.image();
        tell(EIGHT + "y11;d99;h07;");
        x.hands(4);
        x.glues(7, 0, 0);
        due("41: from nothing", x.on(), 0);
        int[] none = {0, 0, 20, 1, 0, 0};
        for (int what = 0; what < none.length; what++) {
            due("41: from nothing", x.count(what), none[what]);
        }
        tell(EIGHT);
        for (int thing = 0; thing < 8; thing++) {
            due("41: as new", x.thing(thing, 2) + x.glad(thing, 11) + x.halves(thing, (thing + 1) % 8), -9);
        }
        due("41: no HALVES", x.count(5), 0);
        x.now(11);
        x.pours(0);
        due("40: another", x.image(), 11);
        x.now(3);
        due("41: from it", x.on(), 11);
        due("41: 8 THINGS", x.count(0), 8);
        due("41: no DROPS", x.count(2), 0);
        x.now(4);
        due("41: from it once more", x.on(), 11);
        due("40: of what went on from it", x.image(), 11);
        x.row(7);
        x.letter('d');
        x.letter(-1);
        due("41: ROW, letters, REFUSALS go on", x.on(), 11);
        due("41: the ROW", x.count(6), 1);
        due("41: letters", x.count(7), 1);
        due("41: REFUSALS", x.count(14), 1);
        x.letter('0');
        x.letter('5');
        x.letter(';');
        due("41: the letters are as they were", x.shop(), 1);
        due("41: DROPS", x.count(2), 5);
    }

    /** Promise 41: once there are fewer THINGS again, none of those that were counts in any answer. */
    private void fewerThanBefore() {
        shop("tt0;y05;g00520;g00430;");
        x.image();
        due("41: one", x.most(0) * 1000 + x.most(1), 30001);
        tell("tf2;tt0;g10077;g20088;g20511;h02;h12;d50;");
        due("41: three", x.most(0) * 1000 + x.most(1), 30 * 1000 + 77 * 1000 + 88 * 1000 + 7);
        due("41: three", x.queue(-1), 5 + 50 + 25);
        due("41: three", x.fewDrops(), 5);
        x.glues(1, 50, 0);
        x.glues(2, 25, 0);
        due("41: two SET", x.gladness(), 20 + 77 + 88);
        due("41: from one", x.on(), 5);
        due("20: one", x.most(0) * 1000 + x.most(1), 30001);
        due("22: one", x.fewDrops(), 1);
        due("21: one", x.byMinutes(99), 30);
        due("24: one", x.queue(-1), 5);
        due("24: NOBODY", x.queue(1), -1);
        due("18: one", x.gladness(), 20);
        due("19: no HALVES", x.agree(0) * 100 + x.agree(1), -9);
        due("25: one", x.oneMore(), 0);
        due("26: one", x.bestYear(), 4);
        due("28: none", x.bestWash(), -9);
        due("29: none", x.sour(), 0);
        due("42: none SET", x.count(4), 0);
        due("39: one", x.lots(1, 0, 1), 0);
        tell("tt0;");
        due("41: the next one is as new", x.most(0) * 1000 + x.most(1), 30001);
        due("41: the next one is as new", x.queue(1), 5);
    }

    /** Promise 42: each what; REFUSALS of each number, as many as there were. */
    private void counts() {
        shop("tt0;");
        for (int i = 1; i <= 90; i++) {
            x.thing(1, 0);
            x.thing(0, 5);
            x.washes(0);
            x.letter(-1);
            x.letter(256);
        }
        for (int what = 11; what <= 16; what++) {
            due("42: REFUSALS " + what, x.count(what), what == 15 ? 0 : 90);
        }
        for (int what : new int[] {MIN, -1, 8, 9, 10, 17, 18, 256, MAX}) {
            due("42: another what " + what, x.count(what), -9);
        }
        due("42: not refused", x.count(12), 90);
        shop(EIGHT, "y11;d99;h07;s0000;s7000;");
        x.hands(4);
        for (int i = 0; i < 16; i++) {
            x.row(i);
        }
        for (int i = 0; i < 96; i++) {
            x.letter(i);
        }
        int[] full = {8, 11, 97, 4, 129, 1, 16, 96};
        for (int what = 0; what < full.length; what++) {
            due("42: count(" + what + ")", x.count(what), full[what]);
        }
    }

    /** The 512th call is answered as the first. */
    private void lastCall() {
        x = new GluedInLifetime();
        for (int call = 1; call < 512; call++) {
            due("call " + call, x.now(call % 12), (call - 1) % 12);
        }
        due("the 512th call", x.count(1), 511 % 12);
    }
}
