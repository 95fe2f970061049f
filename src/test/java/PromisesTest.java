/** The promises one by one, with answers worked out by hand from the document. */
public final class PromisesTest {
    private static final int MIN = Integer.MIN_VALUE;
    private static final int MAX = Integer.MAX_VALUE;

    private final Checks checks = new Checks();
    private GluedInLifetime x;

    public static void main(String[] args) {
        PromisesTest t = new PromisesTest();
        t.newObject();
        t.letters();
        t.shopSyntax();
        t.shopSense();
        t.shopEffects();
        t.thingFacts();
        t.gladAndMakes();
        t.halvesAndPairs();
        t.turning();
        t.nowHandsPours();
        t.gluing();
        t.washing();
        t.wouldByKind();
        t.wouldRefused();
        t.canAndFewest();
        t.gladnessOfAll();
        t.agreeing();
        t.mostByDrops();
        t.mostByMinutes();
        t.fewestDrops();
        t.togetherInOneYear();
        t.queueing();
        t.oneMoreYear();
        t.bestOfYears();
        t.waterAndBestWash();
        t.sourAndRegret();
        t.twoWhoPress();
        t.slips();
        t.means();
        t.whatItWas();
        t.mending();
        t.rowJudgeClear();
        t.lotsOfShops();
        t.imageAndOn();
        t.counting();
        t.checks.end("PromisesTest");
    }

    private void due(String what, long got, long want) {
        checks.due(what, got, want);
    }

    private int tell(String text) {
        for (int i = 0; i < text.length(); i++) {
            x.letter(text.charAt(i));
        }
        return x.shop();
    }

    private void shop(String... texts) {
        x = new GluedInLifetime();
        for (String text : texts) {
            checks.holds("shop " + text, tell(text) > 0);
        }
    }

    private void fault(String text, int want) {
        x = new GluedInLifetime();
        due("shop of '" + text + "'", tell(text), want);
        if (want < 0) {
            due("no THING of '" + text + "'", x.count(0), 0);
            due("no NOW of '" + text + "'", x.count(1), 0);
            due("no DROPS of '" + text + "'", x.count(2), 20);
            due("no HALVES of '" + text + "'", x.count(5), 0);
        }
        due("no letters behind '" + text + "'", x.count(7), 0);
        for (int what = 11; what <= 16; what++) {
            due("nothing counted of '" + text + "'", x.count(what), 0);
        }
    }

    /** Promise 1. */
    private void newObject() {
        x = new GluedInLifetime();
        int[] want = {0, 0, 20, 1, 0, 0, 0, 0, -9, -9, -9, 0, 0, 0, 0, 0, 0};
        for (int what = 0; what < want.length; what++) {
            due("1: count(" + what + ") of a new object", x.count(what), want[what]);
        }
        due("1: no image", x.on(), -3);
    }

    /** Promise 2. */
    private void letters() {
        x = new GluedInLifetime();
        due("2: letter(0)", x.letter(0), 1);
        due("2: letter(255)", x.letter(255), 2);
        due("2: letter(-1)", x.letter(-1), -4);
        due("2: letter(256)", x.letter(256), -6);
        due("2: letter(least)", x.letter(MIN), -4);
        due("2: letter(greatest)", x.letter(MAX), -6);
        for (int i = 3; i <= 96; i++) {
            due("2: letter " + i, x.letter('t'), i);
        }
        due("2: letter 97", x.letter('t'), -6);
        due("2: letter 97, below", x.letter(-1), -4);
        due("2: how many", x.count(7), 96);
        due("2: -4 counted", x.count(14), 3);
        due("2: -6 counted", x.count(16), 3);
    }

    /** Promise 3, FAULTS of kind 1. */
    private void shopSyntax() {
        String[] lacking = {"", "t", "tt", "tt0", "tt0;g", "tt0;g0001", "tt0;v0000011", "tt0;s009", "tt0;h0", "d0", "y"};
        for (String text : lacking) {
            fault(text, -1000 - text.length());
        }
        fault(";", -1000);
        fault("x", -1000);
        fault("T", -1000);
        fault("0", -1000);
        fault(" tt0;", -1000);
        fault("tx0;", -1001);
        fault("tT0;", -1001);
        fault("t0;", -1001);
        fault("t;", -1001);
        fault("ttt;", -1002);
        fault("tt0:", -1003);
        fault("tt00;", -1003);
        fault("tt0;;", -1004);
        fault("tt0; ", -1004);
        fault("y1;", -1002);
        fault("y011;", -1003);
        fault("d1;", -1002);
        fault("h0;", -1002);
        fault("h012;", -1003);
        fault("s000;", -1004);
        fault("s00000;", -1005);
        fault("g0000;", -1005);
        fault("g000000;", -1006);
        fault("v000000;", -1007);
        fault("v00000000;", -1008);
        fault("g/", -1001);
        fault("g:", -1001);
        fault("t" + (char) 0, -1001);
        fault("t" + (char) 255, -1001);
        fault("h00;y99;z", -1008);
        fault("h00;y99;t", -1009);
        fault("y00;".repeat(23) + "tt00", -1000 - 95);
        fault("y00;".repeat(23) + "g000", -1000 - 96);
        x = new GluedInLifetime();
        due("3: no letters at all", x.shop(), -1000);
    }

    /** Promise 3, FAULTS of kind 2, and edges that are none. */
    private void shopSense() {
        for (int i = 0; i < 6; i++) {
            fault("t" + "tcdpfw".charAt(i) + "9;", 1);
        }
        fault("y00;".repeat(24), 24);
        fault("tt0;".repeat(8), 8);
        fault("tt0;".repeat(9), -2032);
        fault("tt0;".repeat(9) + "h00;", -2032);
        fault("g00000;", -2000);
        fault("tt0;g10000;", -2004);
        fault("tt0;g01199;", 2);
        fault("tt0;g01200;", -2004);
        fault("tt0;v0001199;", 2);
        fault("tt0;v0111100;", 2);
        fault("tt0;v0050400;", -2004);
        fault("tt0;v0001200;", -2004);
        fault("tt0;v0121200;", -2004);
        fault("v0000000;", -2000);
        fault("tt0;v1000000;", -2004);
        fault("y11;", 1);
        fault("y12;", -2000);
        fault("y99;", -2000);
        fault("h01;", -2000);
        fault("tt0;h00;", -2004);
        fault("tt0;h01;", -2004);
        fault("tt0;h10;", -2004);
        fault("h01;tt0;tt0;", -2000);
        fault("tt0;tt0;h01;h10;h01;", 5);
        fault("d99;", 1);
        fault("d00;", 1);
        fault("s0000;", -2000);
        fault("tt0;s0999;", 2);
        fault("tt0;s1000;", -2004);
        fault("tt0;s0000;s0000;", -2010);
        fault("d00;tt0;s0000;", -2008);
        fault("d01;tt0;s0000;", 3);
        fault("d09;tf9;s0000;", -2008);
        fault("d10;tf9;s0000;", 3);
        fault("d01;tt0;tt0;s0000;s1000;", -2018);
        fault("y05;d07;tt0;tt0;h01;tt0;y12;", -2024);
    }

    /** Promise 3, what has come, and that a SHOP comes on top of what there is. */
    private void shopEffects() {
        shop("tt3;tf7;y09;v0020450;g00399;h01;d50;s0500;s1991;");
        due("3: THINGS", x.count(0), 2);
        due("3: NOW", x.count(1), 9);
        due("3: DROPS less by both COSTS", x.count(2), 50 - 1 - 8);
        due("3: SET", x.count(4), 3);
        due("3: HALVES", x.halves(1, 0), 1);
        int[] glad = {0, 0, 50, 99, 50, 0, 0, 0, 0, 0, 0, 0};
        for (int year = 0; year < 12; year++) {
            due("3: GLAD in " + year, x.glad(0, year), glad[year]);
        }
        due("3: SET by 50 MINUTES", x.thing(0, 2), 3);
        due("3: SET of all alike", x.thing(1, 2), 9);
        due("3: a FAULT behind what is right", tell("tt0;y00;h01;g00512;s0000;"), -2019);
        due("3: nothing came", x.count(0) + x.count(1) + x.count(5) + x.glad(0, 5), 2 + 9 + 1);
        due("3: more", tell("tw9;h01;s2000;"), 3);
        due("3: THINGS then", x.count(0), 3);
        due("3: HALVES none any more", x.count(5), 0);
        due("3: DROPS then", x.count(2), 40);
        due("3: nothing refused", x.count(11) + x.count(12) + x.count(13) + x.count(14) + x.count(16), 0);
        shop("y05;tt0;g00590;g00380;s0500;g00399;y09;");
        due("3: SET as it stood then", x.thing(0, 2), 5);
        shop("y05;tt0;tt0;g00380;g10380;s0104;s1101;");
        due("3: MINUTES and PRESS", x.thing(0, 2) * 10 + x.thing(1, 2), 55);
        shop("y05;tt0;g00380;s0111;");
        due("3: PRESS too much", x.thing(0, 2), 5);
        shop("y05;tt0;g00380;s0151;");
        due("3: PRESS not too much", x.thing(0, 2), 3);
        shop("tt0;tt0;tt0;");
        due("3: letters of an earlier SHOP do not help", tell("tt0"), -1003);
        due("3: nor at all", tell(""), -1000);
        due("3: nor behind a whole one", tell("tt0;"), 1);
    }

    /** Promise 4. */
    private void thingFacts() {
        shop("tt0;tc1;td2;tp3;tf4;tw5;tf9;tf0;", "y02;v0000150;v1020260;g20240;s2001;");
        for (int i = 0; i < 6; i++) {
            due("4: KIND of " + i, x.thing(i, 0), i);
            due("4: FIGURE of " + i, x.thing(i, 1), i);
            due("4: COST of " + i, x.thing(i, 4), i == 4 ? 5 : 1);
        }
        due("4: COST of a FONT 9", x.thing(6, 4), 10);
        due("4: COST of a FONT 0", x.thing(7, 4), 1);
        due("4: not SET", x.thing(0, 2), -9);
        due("4: GLAD as NOW", x.thing(0, 3), 0);
        due("4: GLAD as NOW", x.thing(1, 3), 60);
        due("4: SET", x.thing(2, 2), 2);
        x.now(1);
        due("4: GLAD as NOW then", x.thing(0, 3), 50);
        due("4: GLAD as in the YEAR in which it is SET", x.thing(2, 3), 40);
        due("4: NOBODY", x.thing(8, 0), -1);
        due("4: NOBODY first", x.thing(-1, 5), -1);
        due("4: OTHER", x.thing(0, 5), -2);
        due("4: OTHER", x.thing(0, -1), -2);
        due("4: NOBODY far", x.thing(MAX, 0) + x.thing(MIN, 0), -2);
    }

    /** Promises 5, 8. */
    private void gladAndMakes() {
        shop("tt0;tt0;g01133;");
        due("5: glad", x.glad(0, 11), 33);
        due("5: glad", x.glad(0, 10), 0);
        due("5: glad of the other", x.glad(1, 11), 0);
        due("5: no THING", x.glad(2, 0), -1);
        due("5: no YEAR", x.glad(0, 12), -1);
        due("5: no YEAR", x.glad(0, -1), -1);
        due("5: no THING", x.glad(-1, 0), -1);
        due("8: what it was", x.makes(0, 11, 99), 33);
        due("8: what it was", x.makes(0, 11, 0), 99);
        due("8: what it was", x.makes(0, 0, 7), 0);
        due("8: so it was", x.glad(0, 0), 7);
        due("8: the other not", x.glad(1, 0), 0);
        due("8: no THING first", x.makes(2, 0, -1), -1);
        due("8: no YEAR first", x.makes(0, 12, 100), -1);
        due("8: no YEAR", x.makes(0, -1, 0), -1);
        due("8: BELOW", x.makes(0, 0, -1), -4);
        due("8: ROOM", x.makes(0, 0, 100), -6);
        due("8: nothing changed", x.glad(0, 0), 7);
        due("8: counted", x.count(11) * 100 + x.count(14) * 10 + x.count(16), 711);
    }

    /** Promises 6, 9. */
    private void halvesAndPairs() {
        shop("tt0;tt0;tt0;h20;");
        due("6: HALVES", x.halves(0, 2), 1);
        due("6: HALVES, the other way", x.halves(2, 0), 1);
        due("6: none", x.halves(0, 1), 0);
        due("6: one twice", x.halves(1, 1), -1);
        due("6: no THING", x.halves(0, 3), -1);
        due("6: no THING", x.halves(3, 0), -1);
        due("6: no THING", x.halves(-1, 0), -1);
        due("9: HALVES", x.pairs(1, 2), 1);
        due("9: HALVES", x.halves(2, 1), 1);
        due("9: how many", x.count(5), 2);
        due("9: none any more", x.pairs(2, 1), 0);
        due("9: none", x.halves(1, 2), 0);
        due("9: none any more of the told", x.pairs(0, 2), 0);
        due("9: how many", x.count(5), 0);
        due("9: one twice", x.pairs(1, 1), -1);
        due("9: no THING", x.pairs(1, 3), -1);
        due("9: no THING", x.pairs(-1, 1), -1);
        due("9: none came", x.count(5), 0);
    }

    /** Promise 7. */
    private void turning() {
        shop("tp3;y05;g00550;s0000;");
        due("7: what it had", x.turn(0, 5, 9), 33);
        due("7: KIND", x.thing(0, 0), 5);
        due("7: FIGURE", x.thing(0, 1), 9);
        due("7: SET still", x.thing(0, 2), 5);
        due("7: GLAD still", x.thing(0, 3), 50);
        due("7: what it had", x.turn(0, 4, 0), 59);
        due("7: NOBODY first", x.turn(1, 6, -1), -1);
        due("7: OTHER first", x.turn(0, 6, -1), -2);
        due("7: OTHER", x.turn(0, -1, 10), -2);
        due("7: BELOW", x.turn(0, 0, -1), -4);
        due("7: ROOM", x.turn(0, 0, 10), -6);
        due("7: nothing changed", x.turn(0, 0, 0), 40);
    }

    /** Promises 10, 11, 12. */
    private void nowHandsPours() {
        x = new GluedInLifetime();
        due("10: what it was", x.now(11), 0);
        due("10: what it was", x.now(0), 11);
        due("10: no YEAR", x.now(12), -1);
        due("10: no YEAR", x.now(-1), -1);
        due("10: still", x.count(1), 0);
        due("11: what they were", x.hands(4), 1);
        due("11: what they were", x.hands(1), 4);
        due("11: BELOW", x.hands(0), -4);
        due("11: BELOW", x.hands(-1), -4);
        due("11: ROOM", x.hands(5), -6);
        due("11: still", x.count(3), 1);
        due("12: what there were", x.pours(0), 20);
        due("12: what there were", x.pours(99), 0);
        due("12: BELOW", x.pours(-1), -4);
        due("12: ROOM", x.pours(100), -6);
        due("12: still", x.count(2), 99);
    }

    /** Promise 13. */
    private void gluing() {
        shop("tt0;tf2;tt0;y08;v0000440;g00640;g00799;v1000440;");
        due("13: the YEAR", x.glues(0, 4, 0), 8);
        due("13: DROPS", x.count(2), 19);
        due("13: SET already", x.glues(0, 4, 0), -3);
        due("13: too much first", x.glues(0, 100, 0), -6);
        due("13: DROPS still", x.count(2), 19);
        x.pours(2);
        due("13: not enough DROPS", x.glues(1, 40, 0), -3);
        due("13: not SET", x.thing(1, 2), -9);
        x.pours(3);
        due("13: the FONT, a half of 8", x.glues(1, 40, 0), 4);
        due("13: DROPS", x.count(2), 0);
        due("13: not enough DROPS", x.glues(2, 0, 0), -3);
        x.pours(1);
        due("13: the most there is", x.glues(2, 99, 9), 8);
        due("13: NOBODY first", x.glues(3, -1, 10), -1);
        due("13: BELOW first", x.glues(0, -1, 10), -4);
        due("13: BELOW first", x.glues(0, 100, -1), -4);
        due("13: ROOM", x.glues(0, 100, 0), -6);
        due("13: ROOM", x.glues(0, 0, 10), -6);
        due("13: counted", x.count(11) * 1000 + x.count(13) * 100 + x.count(14) * 10 + x.count(16), 1323);
    }

    /** Promise 14. */
    private void washing() {
        shop("tt0;y03;g00150;");
        due("14: it is not SET", x.washes(0), -3);
        x.glues(0, 10, 0);
        x.now(7);
        due("14: the YEAR", x.washes(0), 1);
        due("14: SET no more", x.thing(0, 2), -9);
        due("14: GLAD as NOW", x.thing(0, 3), 0);
        due("14: no DROPS come back", x.count(2), 19);
        due("14: it is not SET any more", x.washes(0), -3);
        due("14: NOBODY", x.washes(1), -1);
        due("14: NOBODY", x.washes(-1), -1);
        due("14: it can be SET once more", x.glues(0, 0, 0), 7);
    }

    /** Promise 15: the YEAR and REACH of each KIND. */
    private void wouldByKind() {
        shop("tt2;tc2;td2;tp2;tf2;tw2;y08;", "v0030650;v1030650;v2030650;v3030650;v4030650;v5000890;",
                "v5030650;g00170;g10170;g20170;g30170;g40170;");
        // THING: REACH 4 gets to 4, of 50 in 3 .. 6 the latest.
        due("15: t, 24", x.would(0, 24, 0, 0), 6);
        due("15: t, REACH cut", x.would(0, 24, 0, 1), 4);
        due("15: t, REACH less PRESS", x.would(0, 24, 3, 1), 1);
        due("15: t, REACH 0 at least", x.would(0, 24, 9, 1), 0);
        due("15: t, 1", x.would(0, 9, 0, 0), 8);
        due("15: t, 2", x.would(0, 10, 0, 0), 6);
        due("15: t, PRESS", x.would(0, 10, 1, 0), 8);
        due("15: t, 34", x.would(0, 34, 0, 0), 6);
        due("15: t, 35", x.would(0, 35, 0, 0), 1);
        due("15: t, beyond YEAR 0", x.would(0, 99, 0, 1), 19);
        due("15: t, beyond YEAR 0", x.would(0, 99, 0, 0), 1);
        // CHAIR: of several the earliest.
        due("15: c, 10", x.would(1, 10, 0, 0), 6);
        due("15: c, 15", x.would(1, 15, 0, 0), 5);
        due("15: c, 25", x.would(1, 25, 0, 0), 3);
        due("15: c, 30", x.would(1, 30, 0, 0), 3);
        due("15: c, 35", x.would(1, 35, 0, 0), 1);
        due("15: c, all 0", x.would(1, 5, 0, 0), 7);
        // DOLL: REACH 2 more, behind the 0 at least.
        due("15: d, 0", x.would(2, 0, 0, 1), 2);
        due("15: d, PRESS", x.would(2, 5, 9, 1), 2);
        due("15: d, 0", x.would(2, 0, 0, 0), 6);
        due("15: d, 24", x.would(2, 24, 0, 0), 6);
        due("15: d, 25", x.would(2, 25, 0, 0), 1);
        // PLATE: 2 less for each YEAR before 8: 6 counts 46, 5 44; 1 counts 56.
        due("15: p, 25", x.would(3, 25, 0, 0), 6);
        due("15: p, 35", x.would(3, 35, 0, 0), 1);
        x.turn(3, 3, 4);
        // 4 less: 6 counts 42, 1 42: the earliest.
        due("15: p, of several the earliest", x.would(3, 35, 0, 0), 1);
        x.turn(3, 3, 5);
        due("15: p, 5 less", x.would(3, 35, 0, 0), 6);
        x.turn(3, 3, 9);
        due("15: p, below 0", x.would(3, 5, 0, 0), 8);
        due("15: p, 9 less", x.would(3, 35, 0, 0), 6);
        due("15: p, how GLAD not less", x.would(3, 35, 0, 2), 50);
        // FONT: half, cut.
        due("15: f, 3 by 2", x.would(4, 15, 0, 1), 1);
        due("15: f, 7 less 2, by 2", x.would(4, 39, 2, 1), 2);
        due("15: f, 15", x.would(4, 15, 0, 0), 8);
        due("15: f, 20", x.would(4, 20, 0, 0), 6);
        due("15: f, 69", x.would(4, 69, 0, 0), 6);
        due("15: f, 70", x.would(4, 70, 0, 0), 1);
        // THUMB: REACH 2 more, the least GLAD, of several the latest.
        due("15: w, 0", x.would(5, 0, 0, 1), 2);
        due("15: w, 0", x.would(5, 0, 0, 0), 6);
        due("15: w, 99", x.would(5, 99, 0, 0), 6);
        due("15: w, how GLAD", x.would(5, 99, 0, 2), 50);
        x.makes(5, 0, 49);
        due("15: w, 30", x.would(5, 29, 0, 0), 6);
        due("15: w, 30", x.would(5, 30, 0, 0), 0);
    }

    /** Promise 15: how GLAD, SET or not, and REFUSALS. */
    private void wouldRefused() {
        shop("tt0;y04;v0001110;g00220;g00415;s0000;");
        due("15: SET, and would be", x.would(0, 10, 0, 0), 2);
        due("15: how GLAD", x.would(0, 10, 0, 2), 20);
        due("15: how GLAD", x.would(0, 5, 0, 2), 15);
        due("15: still SET", x.thing(0, 2), 4);
        due("15: NOBODY first", x.would(1, -1, 10, 3), -1);
        due("15: BELOW first", x.would(0, -1, 10, 3), -4);
        due("15: BELOW first", x.would(0, 100, -1, 3), -4);
        due("15: ROOM first", x.would(0, 100, 0, 3), -6);
        due("15: ROOM first", x.would(0, 0, 10, 3), -6);
        due("15: OTHER", x.would(0, 0, 0, 3), -2);
        due("15: OTHER", x.would(0, 99, 9, -1), -2);
    }

    /** Promises 16, 17. */
    private void canAndFewest() {
        shop("tt0;td2;tf0;tw0;tp9;y09;", "v0001140;g00645;g00350;v1001140;g10340;g10845;v2000050;g30399;v3041105;", "v4040830;");
        due("16: t", x.can(0), 1 << 9 | 1 << 6 | 1 << 3);
        due("16: d, not 9", x.can(1), 1 << 8);
        due("16: f, REACH 9 at most", x.can(2), 1 << 9 | 1 << 0);
        due("16: w", x.can(3), 1 << 9 | 1 << 2);
        due("16: p", x.can(4), 1 << 9 | 1 << 8);
        due("16: NOBODY", x.can(5), -1);
        due("16: NOBODY", x.can(-1), -1);
        due("17: t", x.fewest(0, 9), 0);
        due("17: t", x.fewest(0, 6), 15);
        due("17: t", x.fewest(0, 3), 30);
        due("17: t, passed over", x.fewest(0, 0), -9);
        due("17: after NOW", x.fewest(0, 10), -9);
        due("17: d", x.fewest(1, 8), 0);
        due("17: d, not NOW", x.fewest(1, 9), -9);
        due("17: f", x.fewest(2, 0), 90);
        due("17: w", x.fewest(3, 2), 35);
        x.now(11);
        due("17: f, out of REACH", x.fewest(2, 0), -9);
        due("17: no THING", x.fewest(5, 0), -1);
        due("17: no YEAR", x.fewest(0, 12), -1);
        due("17: no YEAR", x.fewest(0, -1), -1);
        x.glues(0, 0, 0);
        due("17: though it is SET", x.fewest(0, 3), 40);
    }

    /** Promise 18. */
    private void gladnessOfAll() {
        x = new GluedInLifetime();
        due("18: nobody", x.gladness(), 0);
        shop("tt0;tp9;tw0;y05;g00510;g00240;g10520;g10199;g20530;s0150;");
        due("18: one SET, two as NOW", x.gladness(), 40 + 20 + 30);
        x.now(1);
        due("18: NOW 1", x.gladness(), 40 + 99);
    }

    /** Promise 19. */
    private void agreeing() {
        x = new GluedInLifetime();
        due("19: none", x.agree(0), 0);
        due("19: none", x.agree(1), -9);
        shop("tt0;tt0;tt0;tt0;y05;h31;h20;h01;s0000;");
        due("19: none", x.agree(0), 0);
        due("19: the first", x.agree(1), 1);
        x.glues(1, 0, 0);
        due("19: one", x.agree(0), 1);
        due("19: the first of others", x.agree(1), 2);
        x.now(4);
        x.glues(2, 0, 0);
        due("19: SET in other YEARS", x.agree(1), 2);
        x.pairs(0, 2);
        due("19: none any more, 10 the lesser and the other", x.agree(1), 13);
        x.now(5);
        x.glues(3, 0, 0);
        due("19: two", x.agree(0), 2);
        due("19: all agree", x.agree(1), -9);
        due("19: OTHER", x.agree(2), -2);
        due("19: OTHER", x.agree(-1), -2);
    }

    /** Promise 20. */
    private void mostByDrops() {
        shop("tt0;tf3;tt0;tt0;tw0;y05;", "v0000510;g00030;v1000510;g10260;v2000510;g20530;v3000510;v4000510;g40501;");
        // Gains: 20, 50 for 4 DROPS, 0 (best NOW), 0, 9 by none: a THUMB stays at 1.
        due("20: all", x.most(0), 30 + 60 + 30 + 10 + 1);
        due("20: which, the least bits", x.most(1), 3);
        x.pours(5);
        due("20: 5 DROPS", x.most(0), 131);
        x.pours(4);
        due("20: 4 DROPS", x.most(0), 111);
        due("20: 4 DROPS", x.most(1), 2);
        x.pours(3);
        due("20: 3 DROPS", x.most(0), 81);
        due("20: 3 DROPS", x.most(1), 1);
        x.pours(0);
        due("20: no DROPS", x.most(0), 61);
        due("20: no DROPS", x.most(1), 0);
        due("20: nothing is GLUED", x.count(4), 0);
        x.pours(20);
        x.glues(0, 0, 0);
        due("20: one SET as NOW", x.most(0), 10 + 60 + 30 + 10 + 1);
        due("20: a SET one is not GLUED", x.most(1), 2);
        due("20: OTHER", x.most(2), -2);
        due("20: OTHER", x.most(-1), -2);
        shop("tt0;tt0;tt0;y01;d01;g00050;g10050;g20050;");
        due("20: of several the least", x.most(1), 1);
        shop("td9;y09;v0001150;g00920;");
        due("20: a DOLL", x.most(1), 1);
        shop("td2;y09;g00990;g00330;", "tp0;v1000911;");
        due("20: best left", x.most(1), 0);
        shop("tt0;tp0;tw0;");
        due("20: none GLAD", x.most(0) * 10 + x.most(1), 0);
        shop("tt0;y01;v0000150;g00051;");
        due("20: 1 more", x.most(0) * 10 + x.most(1), 511);
        shop("tp1;y09;g00090;g00990;g00895;");
        // 8 counts 94: SET in 8 by 5 MINUTES and more; how GLAD is 95.
        due("20: as GLAD as in its YEAR", x.most(0), 95);
    }

    /** Promise 21. */
    private void mostByMinutes() {
        shop("tt0;tt0;tf9;y10;", "g00910;g00730;g10840;g20999;d00;");
        due("21: 0", x.byMinutes(0), 0);
        due("21: 4", x.byMinutes(4), 0);
        due("21: 5", x.byMinutes(5), 10);
        due("21: 9", x.byMinutes(9), 10);
        due("21: 10, the FONT", x.byMinutes(10), 99);
        due("21: 15", x.byMinutes(15), 109);
        due("21: 20", x.byMinutes(20), 139);
        due("21: 25", x.byMinutes(25), 149);
        due("21: 34", x.byMinutes(34), 149);
        due("21: 35", x.byMinutes(35), 169);
        due("21: 99", x.byMinutes(99), 169);
        due("21: BELOW", x.byMinutes(-1), -4);
        due("21: ROOM", x.byMinutes(100), -6);
        x.pours(20);
        x.glues(1, 0, 0);
        due("21: a SET one stays", x.byMinutes(99), 129);
        due("21: nothing of earlier calls", x.byMinutes(0), 0);
        x.makes(1, 10, 5);
        due("21: a SET one as GLAD as it is", x.byMinutes(0), 5);
        due("21: a SET one as GLAD as it is", x.byMinutes(99), 134);
        shop("tt0;td1;y05;g10544;g10433;g00050;g00540;");
        due("21: a DOLL as NOW", x.byMinutes(0), 40 + 44);
        shop("tw1;tt0;y05;g00544;g10540;");
        due("21: a THUMB left, not SET in 4", x.byMinutes(0), 40 + 44);
        shop("tw0;y01;g00150;");
        due("21: left rather", x.byMinutes(99), 50);
        shop("td1;y01;g00090;g00110;");
        due("21: by no MINUTES at all", x.byMinutes(0), 90);
    }

    /** Promise 22. */
    private void fewestDrops() {
        x = new GluedInLifetime();
        due("22: nobody", x.fewDrops(), 0);
        shop("tt0;tf9;tt0;tf0;y01;d00;g00001;g10001;g20101;g30001;");
        due("22: 1 and 10 and 1", x.fewDrops(), 12);
        x.pours(20);
        x.glues(1, 0, 0);
        due("22: less the SET one", x.fewDrops(), 2);
        shop("tf9;tf9;tf9;tf9;tf9;tf9;tf9;tf9;y01;", "g00009;g10009;g20009;g30009;g40009;g50009;g60009;g70009;d00;");
        due("22: all FONTS", x.fewDrops(), 80);
    }

    /** Promise 23. */
    private void togetherInOneYear() {
        shop("tt0;tt0;tf0;y09;v0001110;v1001110;g10630;g00735;g00650;");
        // 9 by 0 and 0; both in 6: 15 and 15.
        due("23: NOW by no MINUTES", x.together(0, 1, 0), 0);
        due("23: NOW", x.together(0, 1, 1), 9);
        x.makes(1, 8, 31);
        x.makes(0, 8, 31);
        due("23: NOW still", x.together(0, 1, 1), 9);
        x.turn(0, 2, 1);
        due("23: a DOLL is never SET NOW", x.together(0, 1, 0), 5);
        due("23: then in 8", x.together(1, 0, 1), 8);
        x.makes(0, 8, 0);
        x.makes(0, 7, 0);
        x.makes(1, 8, 0);
        // The DOLL: 9 by 0, then 6 by 10; the other: 9 by 0, 6 by 15.
        due("23: NOW", x.together(0, 1, 0), 0);
        x.makes(0, 8, 11);
        due("23: not NOW any more", x.together(0, 1, 0), 25);
        due("23: in 6", x.together(0, 1, 1), 6);
        x.makes(0, 3, 90);
        x.makes(0, 4, 89);
        x.makes(0, 5, 88);
        due("23: still in 6", x.together(0, 1, 1), 6);
        x.turn(0, 2, 4);
        due("23: no YEAR", x.together(0, 1, 0), -9);
        due("23: no YEAR", x.together(0, 1, 1), -9);
        due("23: one twice first", x.together(0, 0, 2), -1);
        due("23: no THING first", x.together(0, 3, 2), -1);
        due("23: no THING", x.together(-1, 0, 0), -1);
        due("23: OTHER", x.together(0, 1, 2), -2);
        x.glues(0, 0, 0);
        due("23: OTHER first", x.together(0, 1, -1), -2);
        due("23: the one is SET", x.together(0, 1, 0), -3);
        due("23: the other is SET", x.together(1, 0, 1), -3);
        due("23: neither", x.together(1, 2, 1), 9);
        // DOLL 3 in 7 by 0, in 5 by 10; THUMB 5 in 5 by 0.
        shop("td3;tw5;y10;v0001010;g00720;g00530;v1001030;g10720;g10510;");
        due("23: a DOLL and a THUMB", x.together(0, 1, 0), 10);
        due("23: in 5", x.together(1, 0, 1), 5);
        shop("td2;tt0;y02;g00020;g10020;");
        due("23: in YEAR 0", x.together(0, 1, 0), 10);
        due("23: YEAR 0", x.together(0, 1, 1), 0);
    }

    /** Promise 24. */
    private void queueing() {
        x = new GluedInLifetime();
        due("24: nobody", x.queue(-1), 0);
        due("24: NOBODY", x.queue(0), -1);
        // MINUTES: 10, 25, none (a PLATE that would be in 9), SET, 5, 0 (NOW), 15
        shop("tt0;tt0;tp9;tt0;tc0;tt0;td0;y10;", "g00820;g10520;g20010;g20909;v4090930;v5001099;g60720;s3000;");
        x.makes(4, 11, 99);
        due("24: one HAND", x.queue(-1), 55);
        due("24: first", x.queue(0), 0);
        due("24: second", x.queue(1), 10);
        due("24: left out", x.queue(2), -9);
        due("24: SET", x.queue(3), -9);
        due("24: then", x.queue(4), 35);
        due("24: by no MINUTES", x.queue(5), 40);
        due("24: last", x.queue(6), 40);
        x.hands(2);
        // Hands: 10; 25; 5 from 10 to 15; 0 at 15; 15 from 15 to 30.
        due("24: two HANDS", x.queue(-1), 30);
        due("24: both at once", x.queue(0) + x.queue(1), 0);
        due("24: the free one first", x.queue(4), 10);
        due("24: then", x.queue(5), 15);
        due("24: then", x.queue(6), 15);
        x.hands(4);
        // 10, 25, 5, 0; 15 by the hand free at 0.
        due("24: four HANDS", x.queue(-1), 25);
        due("24: at once", x.queue(6), 0);
        due("24: NOBODY", x.queue(7), -1);
        due("24: NOBODY", x.queue(-2), -1);
        shop("tc0;y09;g00320;g00620;");
        due("24: of several the latest, a CHAIR too", x.queue(-1), 15);
        shop("tt0;y09;g00320;g00620;g01199;");
        due("24: of several the latest up to NOW", x.queue(-1), 15);
        shop("tw0;y09;v0000920;");
        due("24: a THUMB NOW", x.queue(0), 0);
        x.makes(0, 8, 30);
        due("24: a THUMB left out", x.queue(0), -9);
    }

    /** Promise 25. */
    private void oneMoreYear() {
        x = new GluedInLifetime();
        due("25: nobody", x.oneMore(), 0);
        shop("tt0;tp9;tt0;y09;g00940;g01050;g11003;g11107;v2091120;s0000;");
        due("25: a SET one stays", x.oneMore(), 40 + 3 + 20);
        due("25: NOW stays", x.count(1), 9);
        x.now(10);
        due("25: 11", x.oneMore(), 40 + 7 + 20);
        x.now(11);
        due("25: 11 at most", x.oneMore(), 40 + 7 + 20);
    }

    /** Promise 26. */
    private void bestOfYears() {
        x = new GluedInLifetime();
        due("26: nobody", x.bestYear(), 0);
        shop("tt0;tt0;y00;g00430;g10740;");
        due("26: both", x.bestYear(), 7);
        x.pours(1);
        due("26: one by a DROP, one as NOW", x.bestYear(), 7);
        x.pours(0);
        due("26: without DROPS", x.bestYear(), 7);
        x.makes(0, 4, 40);
        due("26: of several the earliest", x.bestYear(), 4);
        x.makes(1, 4, 1);
        due("26: more", x.bestYear(), 4);
        x.now(4);
        x.pours(1);
        x.glues(0, 0, 0);
        x.pours(0);
        due("26: the SET one stays", x.bestYear(), 7);
        due("26: NOW stays", x.count(1), 4);
    }

    /** Promises 27, 28. */
    private void waterAndBestWash() {
        x = new GluedInLifetime();
        due("27: NOBODY", x.water(0), 1000000001);
        due("28: nobody", x.bestWash(), -9);
        shop("tt0;tw0;tw0;tt0;tt0;y05;", "g00560;g10510;g20510;g30520;s0000;s1000;s2000;s3000;");
        due("27: as it is", x.water(0), 0);
        due("28: none", x.bestWash(), -9);
        x.now(6);
        x.makes(0, 6, 50);
        x.makes(1, 6, 12);
        x.makes(2, 6, 30);
        x.makes(3, 6, 40);
        x.makes(4, 6, 99);
        due("27: below 0", x.water(0), -10);
        due("27: more", x.water(1), 2);
        due("27: more", x.water(2), 20);
        due("27: it is not SET", x.water(4), 1000000003);
        due("27: NOBODY", x.water(5), 1000000001);
        due("27: NOBODY", x.water(-1), 1000000001);
        due("28: of several the least", x.bestWash(), 2);
        x.washes(2);
        due("28: the other", x.bestWash(), 3);
        x.washes(3);
        due("28: then", x.bestWash(), 1);
        x.washes(1);
        due("28: none makes it more", x.bestWash(), -9);
        x.makes(0, 6, 61);
        due("28: by 1, the first of all", x.bestWash(), 0);
        due("29: by 1", x.sour(), 1);
        due("27: counted", x.count(11) * 10 + x.count(13), 21);
    }

    /** Promises 29, 30. */
    private void sourAndRegret() {
        x = new GluedInLifetime();
        due("29: nobody", x.sour(), 0);
        due("30: NOBODY", x.regret(0), -1);
        shop("tw1;tt0;td1;tt0;y05;v0000060;", "g00510;g00490;g10350;g10799;g20520;g20420;s0000;s1000;s2000;");
        due("29: as NOW", x.sour(), 0);
        x.now(4);
        due("29: less than NOW", x.sour(), 1);
        due("30: SET in 5 by a least", x.regret(0), 80);
        due("30: GLAD in 3 once", x.regret(1), 50);
        due("30: none", x.regret(2), 0);
        due("30: not SET", x.regret(3), 0);
        x.now(2);
        due("30: only up to NOW", x.regret(1), 0);
        due("30: only up to NOW", x.regret(0), 50);
        x.makes(0, 0, 0);
        due("30: 0 at least", x.regret(0), 0);
        x.now(7);
        due("30: up to NOW, it too", x.regret(1), 99);
        due("29: one more", x.sour(), 2);
        due("30: NOBODY", x.regret(4), -1);
        due("30: NOBODY", x.regret(-1), -1);
    }

    /** Promise 31. */
    private void twoWhoPress() {
        shop("tt0;tt0;y09;v0001150;g00860;g00770;g00680;g00590;");
        // REACH 4 .. 0: YEARS 5 .. 9: the first presses 4, whatever the other does, who wants 0.
        due("31: 20", x.two(0, 20), 40);
        due("31: 0: all alike", x.two(0, 0), 0);
        due("31: 99: REACH 11 at least, all 5", x.two(0, 99), 0);
        // REACH 8 less both; by 0 more than 4 it is 5 by all of the other's.
        due("31: 40", x.two(0, 40), 0);
        due("31: 35", x.two(0, 35), 40);
        due("31: NOBODY first", x.two(2, -1), -1);
        due("31: BELOW", x.two(0, -1), -4);
        due("31: ROOM", x.two(0, 100), -6);
        due("31: NOBODY", x.two(-1, 100), -1);
        shop("tw0;y09;v0001150;g00860;g00770;g00680;g00590;g00940;");
        due("31: a THUMB stays NOW", x.two(0, 20), 0);
        shop("tt0;y08;v0001120;g00650;g00470;");
        // REACH 1 is SET in 8 as REACH 0 is: PRESS 3 is enough.
        due("31: REACH 4 or less", x.two(0, 20), 30);
        due("31: 25", x.two(0, 25), 40);
    }

    /** Promise 32. */
    private void slips() {
        shop("tt0;tt0;y09;v0001110;g00820;g00730;g00640;");
        due("32: none of 3 by 1 in 2, above", x.slip(0, 3, 2, 9, 0), 1);
        due("32: below", x.slip(0, 3, 2, 9, 1), 8);
        due("32: one of 3", x.slip(0, 3, 2, 8, 0) * 100 + x.slip(0, 3, 2, 8, 1), 308);
        due("32: all 3", x.slip(0, 3, 2, 6, 0) * 100 + x.slip(0, 3, 2, 6, 1), 108);
        due("32: two of 3 by 1 in 3: 12 of 27", x.slip(0, 3, 3, 7, 0) * 100 + x.slip(0, 3, 3, 7, 1), 409);
        due("32: none of 3 by 1 in 3", x.slip(0, 3, 3, 9, 0) * 100 + x.slip(0, 3, 3, 9, 1), 127);
        due("32: never", x.slip(0, 3, 3, 5, 0), 0);
        due("32: 0 by 1", x.slip(0, 3, 3, 5, 1), 1);
        due("32: surely", x.slip(0, 0, 20, 9, 0), 1);
        due("32: surely", x.slip(0, 0, 20, 9, 1), 1);
        due("32: none of 8 by 1 in 20", x.slip(0, 8, 20, 9, 0), 1);
        due("32: 20 to the 8th", x.slip(0, 8, 20, 9, 1), 25600000000L);
        due("32: one of 8 by 1 in 20: 8 times 19, in least terms", x.slip(0, 8, 20, 8, 0), 19);
        due("32: below", x.slip(0, 8, 20, 8, 1), 3200000000L);
        x.makes(1, 1, 5);
        due("32: 8 of 8 by 1 in 3", x.slip(1, 8, 3, 1, 0) * 10000 + x.slip(1, 8, 3, 1, 1), 256 * 10000 + 6561);
        due("32: no THING first", x.slip(2, -1, 21, 0, 2), 4000000000000000001L);
        due("32: no YEAR first", x.slip(0, -1, 21, 12, 2), 4000000000000000001L);
        due("32: no YEAR", x.slip(0, 0, 2, -1, 0), 4000000000000000001L);
        due("32: n BELOW first", x.slip(0, -1, 21, 0, 2), 4000000000000000004L);
        due("32: t BELOW first", x.slip(0, 9, 1, 0, 2), 4000000000000000004L);
        due("32: n ROOM first", x.slip(0, 9, 2, 0, 2), 4000000000000000006L);
        due("32: t ROOM first", x.slip(0, 8, 21, 0, -1), 4000000000000000006L);
        due("32: OTHER", x.slip(0, 8, 20, 11, 2), 4000000000000000002L);
        due("32: OTHER", x.slip(0, 8, 20, 11, -1), 4000000000000000002L);
        due("32: counted", x.count(11) * 1000 + x.count(12) * 100 + x.count(14) * 10 + x.count(16), 3222);
    }

    /** Promise 33. */
    private void means() {
        shop("tt0;tt0;y09;v0001110;g00820;g00730;g00640;");
        // 1 of 10, 3 of 20, 3 of 30, 1 of 40, of 8: 200 by 8.
        due("33: above", x.mean(0, 3, 2, 0), 25);
        due("33: below", x.mean(0, 3, 2, 1), 1);
        // 1 of 10 and 2 of 20, of 3: 50 by 3.
        due("33: above", x.mean(0, 1, 3, 0), 50);
        due("33: below", x.mean(0, 1, 3, 1), 3);
        due("33: of none GLAD", x.mean(1, 8, 20, 0), 0);
        due("33: 0 by 1", x.mean(1, 8, 20, 1), 1);
        due("33: n 0", x.mean(0, 0, 2, 0) * 10 + x.mean(0, 0, 2, 1), 101);
        x.makes(1, 9, 99);
        x.makes(1, 8, 98);
        due("33: the same always", x.mean(1, 8, 20, 0), 99);
        shop("tt0;tt0;y08;g00064;");
        due("33: 8 of 8 by 1 in 2", x.mean(0, 8, 2, 0) * 10 + x.mean(0, 8, 2, 1), 14);
        x.makes(0, 0, 0);
        x.makes(0, 1, 32);
        due("33: 7 and 8 of 8, 9 of 256", x.mean(0, 8, 2, 0) * 10 + x.mean(0, 8, 2, 1), 98);
        due("33: NOBODY first", x.mean(2, -1, 21, 2), 4000000000000000001L);
        due("33: BELOW first", x.mean(0, -1, 21, 2), 4000000000000000004L);
        due("33: BELOW first", x.mean(0, 9, 1, 2), 4000000000000000004L);
        due("33: ROOM first", x.mean(0, 9, 2, 2), 4000000000000000006L);
        due("33: ROOM first", x.mean(0, 8, 21, -1), 4000000000000000006L);
        due("33: OTHER", x.mean(0, 8, 20, 2), 4000000000000000002L);
        due("33: OTHER", x.mean(0, 8, 20, -1), 4000000000000000002L);
    }

    private void tellRow(int... numbers) {
        x.clear();
        for (int v : numbers) {
            x.row(v);
        }
    }

    /** Promise 34. */
    private void whatItWas() {
        shop("tt2;y09;v0000950;g00655;");
        due("34: no ROW: all KINDS", x.whatWas(0, 0), 63);
        due("34: no ROW: all FIGURES", x.whatWas(0, 1), 1023);
        tellRow(9, 9, 9, 6, 6);
        // 6 counts 49 to a PLATE 2; a DOLL 2 has 6 by 5; a FONT by 30.
        due("34: t alone", x.whatWas(0, 0), 1);
        due("34: t whatever the FIGURE", x.whatWas(0, 1), 1023);
        due("34: the ROW stays", x.count(6), 5);
        tellRow(9, 6);
        due("34: d", x.whatWas(0, 0), 1 << 2);
        due("34: t with no FIGURE", x.whatWas(0, 1), 0);
        x.turn(0, 2, 9);
        due("34: d 2", x.whatWas(0, 1), 1 << 2);
        due("34: d 9 is none", x.whatWas(0, 0), 0);
        tellRow(6);
        due("34: d 3 and more", x.whatWas(0, 1), 1023 - 7);
        x.turn(0, 3, 0);
        tellRow(9, 8, 7, 6, 6);
        due("34: p 0 as c", x.whatWas(0, 0), 1 << 1 | 1 << 3);
        due("34: p 0 alone", x.whatWas(0, 1), 1);
        x.turn(0, 3, 1);
        tellRow(9, 9, 9, 6, 6);
        due("34: p 1, 52 in 6, or t", x.whatWas(0, 0), 1 | 1 << 3);
        due("34: p 1", x.whatWas(0, 1), 1 << 1);
        due("34: KIND and FIGURE stay", x.turn(0, 4, 0), 31);
        tellRow(9, 9, 9, 9, 9, 9, 6);
        due("34: f", x.whatWas(0, 0), 1 << 4);
        tellRow(9, 9, 9, 9, 9, 9, 9, 12);
        due("34: no YEAR", x.whatWas(0, 0), 0);
        tellRow(9);
        due("34: NOW", x.whatWas(0, 0), 63);
        x.makes(0, 7, 40);
        tellRow(9, 9, 7);
        due("34: w", x.whatWas(0, 0), 1 << 5);
        due("34: NOBODY first", x.whatWas(1, 2), -1);
        due("34: OTHER", x.whatWas(0, 2), -2);
        due("34: OTHER", x.whatWas(0, -1), -2);
    }

    /** Promise 35. */
    private void mending() {
        shop("tt0;tc0;tp9;tw0;y09;v0050740;g00850;", "v1050840;v2000910;v3050940;g30830;");
        due("35: more than 50 before 8", x.mended(0, 7, 15), 51);
        due("35: 8 as 40, the later", x.mended(0, 8, 15), 40);
        due("35: NOW", x.mended(0, 9, 15), 50);
        due("35: NOW alone", x.mended(0, 9, 4), 0);
        due("35: by no MINUTES", x.mended(0, 9, 0), 0);
        due("35: out of REACH", x.mended(0, 7, 9), -9);
        due("35: after NOW", x.mended(0, 10, 99), -9);
        due("35: a CHAIR, the earlier", x.mended(1, 6, 15), 40);
        due("35: a CHAIR, the later", x.mended(1, 8, 15), 41);
        due("35: a PLATE, 9 a YEAR", x.mended(2, 6, 15), 10 + 27);
        due("35: a THUMB, the least", x.mended(3, 7, 15), 0);
        x.makes(3, 8, 0);
        due("35: a THUMB, never", x.mended(3, 7, 15), -9);
        x.makes(0, 8, 99);
        due("35: above 99", x.mended(0, 7, 15), -9);
        due("35: as 99, the later", x.mended(0, 9, 15), 99);
        due("35: nothing changed", x.glad(0, 9) * 100 + x.glad(0, 7), 40);
        due("35: no THING first", x.mended(4, 0, -1), -1);
        due("35: no YEAR first", x.mended(0, 12, 100), -1);
        due("35: no YEAR", x.mended(0, -1, 0), -1);
        due("35: BELOW", x.mended(0, 0, -1), -4);
        due("35: ROOM", x.mended(0, 0, 100), -6);
    }

    /** Promises 36, 37, 38. */
    private void rowJudgeClear() {
        shop("tt0;v0000007;v0001150;v0000007;");
        due("38: none", x.clear(), 0);
        due("36: one", x.row(0), 1);
        due("36: two", x.row(99), 2);
        due("36: BELOW", x.row(-1), -4);
        due("36: ROOM", x.row(100), -6);
        due("38: two", x.clear(), 2);
        due("38: none then", x.count(6), 0);
        for (int i = 1; i <= 16; i++) {
            due("36: " + i, x.row(i == 1 ? 7 : 50), i);
        }
        due("36: no room", x.row(5), -6);
        due("36: no room, below", x.row(-1), -4);
        due("37: NOBODY, the ROW stays", x.judge(1), -1);
        due("37: NOBODY, the ROW stays", x.judge(-1), -1);
        due("37: it stayed", x.count(6), 16);
        due("37: beyond 11", x.judge(0), 12);
        due("37: none then", x.count(6), 0);
        due("37: no ROW", x.judge(0), -9);
        tellRow(7, 50, 50);
        due("37: so it was", x.judge(0), -9);
        due("37: none then", x.count(6), 0);
        tellRow(7, 50, 51, 50, 0);
        due("37: not so", x.judge(0), 2);
        tellRow(6);
        due("37: not so", x.judge(0), 0);
        tellRow(7, 50, 50, 50, 50, 50, 50, 50, 50, 50, 50, 50);
        due("37: all 12", x.judge(0), -9);
    }

    /** Promise 39: each THING has MINUTES, then PRESS, drawn apart here. */
    private void lotsOfShops() {
        x = new GluedInLifetime();
        due("39: nobody", x.lots(20, 1, 0), 0);
        shop("tt0;tt0;tt0;y11;h02;s1000;d00;");
        for (int year = 0; year < 12; year++) {
            x.makes(0, year, 90 - 3 * year);
            x.makes(1, year, 90);
            x.makes(2, year, 91 - 5 * year);
        }
        int glad = 0;
        int agree = 0;
        int z = -7;
        for (int i = 0; i < 3; i++) {
            int[] reach = new int[2];
            for (int j = 0; j < 2; j++) {
                z = z * 1664525 + 1013904223;
                int minutes = (z & 0x7fffffff) / 256 % 60;
                z = z * 1664525 + 1013904223;
                int press = (z & 0x7fffffff) / 256 % 4;
                reach[j] = Math.max(0, Math.min(11, minutes / 5 - press));
            }
            glad += 90 + (90 - 3 * (11 - reach[0])) + (91 - 5 * (11 - reach[1]));
            agree += reach[0] == reach[1] ? 1 : 0;
        }
        due("39: how GLAD", x.lots(3, -7, 0), glad);
        due("39: how many AGREE", x.lots(3, -7, 1), agree);
        due("39: nothing is GLUED", x.count(4) * 100 + x.count(2), 200);
        x.glues(0, 0, 0);
        due("39: BELOW first", x.lots(0, 0, 2), -4);
        due("39: BELOW", x.lots(-1, 0, 0), -4);
        due("39: ROOM first", x.lots(21, 0, 2), -6);
        due("39: OTHER", x.lots(1, 0, 2), -2);
        due("39: OTHER", x.lots(20, MIN, -1), -2);
        shop("tt0;tt0;h01;s0000;s1000;");
        due("39: SET ones AGREE in each", x.lots(20, MAX, 1), 20);
    }

    /** Promises 40, 41. */
    private void imageAndOn() {
        shop("tt1;tt2;y05;g00533;h01;s0000;");
        x.row(4);
        due("41: there is none", x.on(), -3);
        due("40: NOW", x.image(), 5);
        x.now(7);
        x.hands(3);
        x.pours(1);
        x.turn(0, 4, 4);
        x.makes(0, 5, 11);
        x.washes(0);
        x.glues(1, 0, 0);
        x.pairs(0, 1);
        tell("tt0;");
        x.row(5);
        x.letter('t');
        x.thing(9, 9);
        due("41: NOW", x.on(), 5);
        due("41: THINGS", x.count(0), 2);
        due("41: NOW", x.count(1), 5);
        due("41: DROPS", x.count(2), 19);
        due("41: HANDS", x.count(3), 1);
        due("41: SET", x.count(4), 1);
        due("41: HALVES", x.count(5), 1);
        due("41: the ROW is not in it", x.count(6), 2);
        due("41: letters are not in it", x.count(7), 1);
        due("41: REFUSALS are not in it", x.count(11) * 10 + x.count(13), 11);
        due("41: KIND and FIGURE", x.turn(0, 0, 1), 1);
        due("41: GLAD", x.glad(0, 5), 33);
        x.now(2);
        due("41: once more", x.on(), 5);
        x.now(3);
        tell("tt0;v2001199;h02;s2000;");
        due("41: without what came behind", x.on(), 5);
        due("41: it is gone", x.thing(2, 0), -1);
        tell("tc1;");
        due("41: what comes is as new", x.glad(2, 0) + x.glad(2, 11) + x.halves(0, 2), 0);
        due("41: what comes is not SET", x.thing(2, 2), -9);
        x.now(3);
        due("40: another", x.image(), 3);
        x.now(4);
        due("41: from the other", x.on(), 3);
    }

    /** Promise 42. */
    private void counting() {
        shop("tt0;tt0;tt0;y06;h01;h21;d33;s0000;s2000;");
        x.hands(2);
        x.row(1);
        x.row(1);
        x.letter('t');
        int[] want = {3, 6, 31, 2, 5, 2, 2, 1};
        for (int what = 0; what < want.length; what++) {
            due("42: count(" + what + ")", x.count(what), want[what]);
        }
        x.thing(3, 0);
        x.most(2);
        x.most(2);
        x.glues(0, 0, 0);
        x.hands(0);
        x.pours(100);
        x.water(1);
        x.slip(0, 0, 0, 0, 0);
        x.mean(9, 0, 0, 0);
        int[] refused = {2, 2, 2, 2, 0, 1};
        for (int i = 0; i < refused.length; i++) {
            due("42: count(" + (11 + i) + ")", x.count(11 + i), refused[i]);
        }
        for (int what : new int[] {-1, 8, 9, 10, 17, MIN, MAX}) {
            due("42: count(" + what + ")", x.count(what), -9);
        }
        due("42: nothing refused by it", x.count(11) + x.count(12), 4);
    }
}
