/** Promises 1 to 9: a new object, the text, its faults, what is told. */
public final class ShopTest {
    private static final String FULL_SHOP = "d5;u36;u20;u45;u1;u99;u7;"
        + "t0 1 2 3;t1 0 3 2;t1 2 3 1;t2 1 20 1;t3 4 1 20;t4 3 7 8;t5 0 1 1;t0 5 19 18;"
        + "p0 10;p1 12;p2 40;p3 1;p4 2;p5 3;n0 1;n1 20;n2 3;n3 4;n4 5;n5 6;";

    public static void main(String[] args) {
        newObject();
        letters();
        shopOfNothing();
        wholeShop();
        blanks();
        wordFaults();
        numberFaults();
        useFaults();
        countFaults();
        tableFaults();
        firstFaultCounts();
        faultChangesNothing();
        newShopClears();
        shopAfterShop();
        textAfterText();
        Due.end();
    }

    private static void newObject() {
        WhateverYard yard = new WhateverYard();
        for (int what = 0; what <= 12; what++) Due.due("new: told(" + what + ")", yard.told(what), 0);
        Due.due("new: told(13)", yard.told(13), Due.OUTSIDE);
        Due.due("new: told(-1)", yard.told(-1), Due.OUTSIDE);
        Due.due("new: fault()", yard.fault(), Due.NONE);
        Due.due("new: yard(0)", yard.yard(0), Due.UNKNOWN);
        Due.due("new: table(0, 0)", yard.table(0, 0), Due.UNKNOWN);
        Due.due("new: piece(0, 0)", yard.piece(0, 0), Due.UNKNOWN);
        Due.due("new: wanted(0, 0)", yard.wanted(0, 0), Due.UNKNOWN);
        Due.due("new: cut(0, 0, 1)", yard.cut(0, 0, 1), Due.UNKNOWN);
        Due.due("new: turn(0, 0)", yard.turn(0, 0), Due.UNKNOWN);
        Due.due("new: change(0, 0)", yard.change(0, 0), Due.UNKNOWN);
        Due.due("new: drift(1)", yard.drift(1), Due.NOT);
        Due.due("new: undo()", yard.undo(), Due.NOT);
        Due.due("new: agree()", yard.agree(), 1);
        Due.due("new: clash()", yard.clash(), Due.NONE);
        Due.due("new: slips()", yard.slips(), 0);
        Due.due("new: most(0, 0, 1, -1)", yard.most(0, 0, 1, -1), Due.UNKNOWN);
        Due.due("new: gain(0)", yard.gain(0), Due.NONE);
        Due.due("new: leastDues()", yard.leastDues(), 0);
        Due.due("new: cutting(-1)", yard.cutting(-1), 0);
        Due.due("new: honest(1, 0)", yard.honest(1, 0), Due.NONE);
        Due.due("new: honest(1, 1)", yard.honest(1, 1), Due.NONE);
        Due.due("new: remnants()", yard.remnants(), 0);
        Due.due("new: boughtFor()", yard.boughtFor(), 0);
        Due.due("new: ask()", yard.ask(), Due.NONE);
        Due.due("new: write(0, 0)", yard.write(0, 0), Due.UNKNOWN);
        Due.due("new: tear()", yard.tear(), 0);
        Due.due("new: judge()", yard.judge(), Due.NONE);
        Due.due("new: goBack(0)", yard.goBack(0), Due.NOT);
        Due.due("new: goBack(1)", yard.goBack(1), Due.NOT);
        Due.due("new: seed(0)", yard.seed(0), 0);
    }

    private static void letters() {
        WhateverYard yard = new WhateverYard();
        Due.due("feed(-1)", yard.feed(-1), Due.OUTSIDE);
        Due.due("feed(256)", yard.feed(256), Due.OUTSIDE);
        Due.due("told(5) after refused letters", yard.told(5), 0);
        Due.due("feed(0)", yard.feed(0), 1);
        Due.due("feed(255)", yard.feed(255), 2);
        Due.due("told(5)", yard.told(5), 2);
        for (int i = 2; i < 240; i++) Due.due("feed(32)", yard.feed(32), i + 1);
        Due.due("feed of a 241st", yard.feed(32), Due.FULL);
        Due.due("feed of a 241st that is no letter", yard.feed(256), Due.OUTSIDE);
        Due.due("told(5) when full", yard.told(5), 240);
        Due.due("shop()", yard.shop(), -11);
        Due.due("fault()", yard.fault(), 0);
        Due.due("told(5) after shop()", yard.told(5), 0);
        Due.due("feed again", yard.feed(32), 1);
    }

    private static void shopOfNothing() {
        WhateverYard yard = Due.open(FULL_SHOP);
        Due.feed(yard, "   ");
        Due.due("shop() of blanks", yard.shop(), 0);
        Due.due("fault() of blanks", yard.fault(), Due.NONE);
        for (int what = 0; what <= 12; what++) Due.due("blanks: told(" + what + ")", yard.told(what), 0);
        Due.due("blanks: yard(0)", yard.yard(0), Due.UNKNOWN);
        Due.due("blanks: piece(0, 0)", yard.piece(0, 0), Due.UNKNOWN);
        yard = Due.open("d0;");
        Due.due("d0; is a shop", yard.told(12), 1);
        Due.due("d0; has no uses", yard.told(1), 0);
        Due.due("shop() of an empty text", yard.shop(), 0);
        Due.due("told(12) then", yard.told(12), 0);
        for (int i = 0; i < 240; i++) yard.feed(32);
        Due.due("shop() of 240 blanks", yard.shop(), 0);
        Due.due("fault() of 240 blanks", yard.fault(), Due.NONE);
    }

    private static void wholeShop() {
        WhateverYard yard = Due.open(FULL_SHOP);
        int[] told = {5, 6, 8, 6, 6, 0, 0, 0, 360 + 240 + 1800 + 1 + 198 + 21, 0, 0, 0, 1};
        for (int what = 0; what < told.length; what++) Due.due("told(" + what + ")", yard.told(what), told[what]);
        int[] yards = {36, 20, 45, 1, 99, 7};
        for (int u = 0; u < 6; u++) Due.due("yard(" + u + ")", yard.yard(u), yards[u]);
        Due.due("yard(6)", yard.yard(6), Due.UNKNOWN);
        Due.due("yard(-1)", yard.yard(-1), Due.UNKNOWN);
        int[][] tables = {{0, 1, 2, 3}, {1, 0, 3, 2}, {1, 2, 3, 1}, {2, 1, 20, 1}, {3, 4, 1, 20}, {4, 3, 7, 8},
            {5, 0, 1, 1}, {0, 5, 19, 18}};
        for (int t = 0; t < 8; t++) {
            for (int what = 0; what < 4; what++) {
                Due.due("table(" + t + ", " + what + ")", yard.table(t, what), tables[t][what]);
            }
        }
        Due.due("table(0, 4)", yard.table(0, 4), Due.OUTSIDE);
        Due.due("table(0, -1)", yard.table(0, -1), Due.OUTSIDE);
        Due.due("table(8, 4)", yard.table(8, 4), Due.UNKNOWN);
        Due.due("table(-1, 0)", yard.table(-1, 0), Due.UNKNOWN);
        int[][] pieces = {{360, 0, 10}, {240, 1, 12}, {1800, 2, 40}, {1, 3, 1}, {198, 4, 2}, {21, 5, 3}};
        int[][] wants = {{0, 1}, {1, 20}, {2, 3}, {3, 4}, {4, 5}, {5, 6}};
        for (int i = 0; i < 6; i++) {
            for (int what = 0; what < 3; what++) {
                Due.due("piece(" + i + ", " + what + ")", yard.piece(i, what), pieces[i][what]);
            }
            Due.due("wanted(" + i + ", 0)", yard.wanted(i, 0), wants[i][0]);
            Due.due("wanted(" + i + ", 1)", yard.wanted(i, 1), wants[i][1]);
        }
        Due.due("piece(0, 3)", yard.piece(0, 3), Due.OUTSIDE);
        Due.due("piece(0, -1)", yard.piece(0, -1), Due.OUTSIDE);
        Due.due("piece(6, 3)", yard.piece(6, 3), Due.UNKNOWN);
        Due.due("piece(-1, 0)", yard.piece(-1, 0), Due.UNKNOWN);
        Due.due("wanted(0, 2)", yard.wanted(0, 2), Due.OUTSIDE);
        Due.due("wanted(0, -1)", yard.wanted(0, -1), Due.OUTSIDE);
        Due.due("wanted(6, 2)", yard.wanted(6, 2), Due.UNKNOWN);
        Due.due("wanted(-1, 0)", yard.wanted(-1, 0), Due.UNKNOWN);
    }

    private static void blanks() {
        WhateverYard yard = Due.open("  d 007 ;u  099  ; u1;t 0   1 020 1 ; p00 040;n 1 001 ;  ");
        Due.due("D", yard.told(0), 7);
        Due.due("yard(0)", yard.yard(0), 99);
        Due.due("yard(1)", yard.yard(1), 1);
        Due.due("table(0, 2)", yard.table(0, 2), 20);
        Due.due("piece(0, 0)", yard.piece(0, 0), 3960);
        Due.due("wanted(0, 0)", yard.wanted(0, 0), 1);
        Due.due("wanted(0, 1)", yard.wanted(0, 1), 1);
        fault("d1 0;", 1, 3);
        fault("d0;u1;u1;t0 1 1 2 3;", 1, 18);
        fault("d0;u1\t;", 1, 5);
    }

    private static void wordFaults() {
        fault("x", 1, 0);
        fault(" x", 1, 1);
        fault(";", 1, 0);
        fault("5", 1, 0);
        fault("D0;", 1, 0);
        fault("u36;d0;", 1, 0);
        fault("t0 1 1 1;", 1, 0);
        fault("p0 1;", 1, 0);
        fault("n0 1;", 1, 0);
        fault("d0;x", 1, 3);
        fault("d0;;", 1, 3);
        fault("d0;4", 1, 3);
        fault("d", 1, 1);
        fault("d  ", 1, 3);
        fault("d;", 1, 1);
        fault("dd;", 1, 1);
        fault("d0", 1, 2);
        fault("d0  ", 1, 4);
        fault("d0u1;", 1, 2);
        fault("d-1;", 1, 1);
        fault("d0;u", 1, 4);
        fault("d0;u;", 1, 4);
        fault("d0;u1", 1, 5);
        fault("d0;u1 2;", 1, 6);
        fault("d0;u1 0002;", 1, 6);
        fault("d0;u1;u1;t0;", 1, 11);
        fault("d0;u1;u1;t0 1;", 1, 13);
        fault("d0;u1;u1;t02 1 1;", 2, 10);
        fault("d0;u1;u1;t01 1 1;", 4, 13);
        fault("d0;u1;u1;t0 1 1;", 1, 15);
        fault("d0;u1;u1;t0 1 1 1", 1, 17);
        fault("d0;u1;p0;", 1, 8);
        fault("d0;u1;p0 1", 1, 10);
        fault("d0;u1;n0;", 1, 8);
        fault("d0;u1;n0 1 1;", 1, 11);
        fault("d:;", 1, 1);
        fault("d/;", 1, 1);
    }

    private static void numberFaults() {
        fault("d100;", 2, 1);
        fault("d  100;", 2, 3);
        fault("d0000;", 2, 1);
        fault("d1000", 2, 1);
        fault("d4294967296;", 2, 1);
        fault("d99999999999999999999;", 2, 1);
        fault("d0;u0;", 2, 4);
        fault("d0;u100;", 2, 4);
        fault("d0;u0001;", 2, 4);
        fault("d0;u1;u1;t0 1 0 1;", 2, 14);
        fault("d0;u1;u1;t0 1 21 1;", 2, 14);
        fault("d0;u1;u1;t0 1 1 0;", 2, 16);
        fault("d0;u1;u1;t0 1 1 21;", 2, 16);
        fault("d0;u1;p0 0;", 2, 9);
        fault("d0;u1;p0 41;", 2, 9);
        fault("d0;u1;n0 0;", 2, 9);
        fault("d0;u1;n0 21;", 2, 9);
        Due.due("bounds that hold", Due.open("d99;u99;u1;t0 1 20 20;t1 0 1 1;p0 40;p0 1;n0 20;n0 1;").told(0), 99);
    }

    private static void useFaults() {
        fault("d0;t0 1 1 1;", 2, 4);
        fault("d0;u1;t1 0 1 1;", 2, 7);
        fault("d0;u1;t0 1 1 1;", 2, 9);
        fault("d0;u1;t0  0001 1 1;", 2, 10);
        fault("d0;p0 1;u1;", 2, 4);
        fault("d0;u1;p1 1;", 2, 7);
        fault("d0;u1;n1 1;", 2, 7);
        fault("d0;n0 1;", 2, 4);
        fault("d0;u1;p0000 1;", 2, 7);
        Due.due("later uses are told", Due.open("d0;u1;p0 1;u2;p1 1;t1 0 1 1;").told(1), 2);
    }

    private static void countFaults() {
        String six = "d0;u1;u1;u1;u1;u1;u1;";
        Due.due("six uses", Due.open(six).told(1), 6);
        fault("d0;d", 3, 3);
        fault("d0; d0;", 3, 4);
        fault(six + "u", 3, 21);
        fault(six + " u1;", 3, 22);
        String pieces = "d0;u1;p0 1;p0 1;p0 1;p0 1;p0 1;p0 1;";
        Due.due("six pieces", Due.open(pieces).told(3), 6);
        fault(pieces + "p0 1;", 3, 36);
        String wants = "d0;u1;n0 1;n0 1;n0 1;n0 1;n0 1;n0 1;";
        Due.due("six wants", Due.open(wants).told(4), 6);
        fault(wants + "n0 1;", 3, 36);
        String tables = six + "t0 1 1 1;t0 2 1 1;t0 3 1 1;t0 4 1 1;t0 5 1 1;t1 0 1 1;t1 2 1 1;t1 3 1 1;";
        Due.due("eight tables", Due.open(tables).told(2), 8);
        fault(tables + "t1 4 1 1;", 3, 93);
        fault(tables + "t0 0 1 1;", 3, 93);
    }

    private static void tableFaults() {
        fault("d0;u1;t0 0 1 1;", 4, 9);
        fault("d0;u1;t0  00 1 1;", 4, 10);
        fault("d0;u1;t0 0", 4, 9);
        fault("d0;u1;u1;t0 1 1 1;t0 1 2 2;", 4, 21);
        fault("d0;u1;u1;t0 1 1 1;t1 0 1 1;t1 0 1 1;", 4, 30);
        Due.due("there and back", Due.open("d0;u1;u1;t0 1 1 1;t1 0 1 1;").told(2), 2);
        Due.due("like A, like B", Due.open("d0;u1;u1;u1;t0 1 1 1;t0 2 1 1;t1 2 1 1;").told(2), 3);
    }

    private static void firstFaultCounts() {
        fault("d100x", 2, 1);
        fault("d0;u0u", 2, 4);
        fault("d0;u1;t0 0 99 99;", 4, 9);
        fault("d0;u1;t0 5 99 99;", 2, 9);
        fault("d0;x;d0;", 1, 3);
        fault("d0;d100;", 3, 3);
        fault("u100;", 1, 0);
    }

    private static void faultChangesNothing() {
        WhateverYard yard = Due.open("d10;u36;u20;t0 1 1 1;p0 10;n1 2;");
        yard.seed(77);
        yard.keep(1);
        yard.cut(0, 0, 1);
        yard.change(0, 1);
        yard.left(1, 2, 3);
        yard.write(0, 5);
        Due.feed(yard, "d5;u9;q");
        Due.due("shop() with a fault", yard.shop(), -11);
        Due.due("fault()", yard.fault(), 6);
        int[] told = {10, 2, 1, 1, 1, 0, (16 - 9) * 10, 0, 324, 1, 1, 2, 1};
        for (int what = 0; what < told.length; what++) {
            Due.due("told(" + what + ") after a fault", yard.told(what), told[what]);
        }
        Due.due("yard(0) after a fault", yard.yard(0), 36);
        Due.due("undo() after a fault", yard.undo(), 1);
        Due.due("goBack(1) after a fault", yard.goBack(1), 1);
        Due.due("piece(0, 0) after going back", yard.piece(0, 0), 360);
        Due.feed(yard, "d3;");
        Due.due("shop() without a fault", yard.shop(), 0);
        Due.due("fault() without one", yard.fault(), Due.NONE);
    }

    private static void newShopClears() {
        WhateverYard yard = Due.open(FULL_SHOP);
        yard.seed(77);
        yard.turn(0, 0);
        yard.change(1, 3);
        yard.keep(0);
        yard.keep(1);
        yard.cut(0, 3, 1);
        yard.left(1, 2, 3);
        yard.write(0, 5);
        Due.feed(yard, "d1;u2;u3;p1 4;");
        Due.due("a new shop()", yard.shop(), 2);
        int[] told = {1, 2, 0, 1, 0, 0, 0, 0, 12, 0, 0, 0, 1};
        for (int what = 0; what < told.length; what++) {
            Due.due("told(" + what + ") of a new shop", yard.told(what), told[what]);
        }
        Due.due("undo()", yard.undo(), Due.NOT);
        Due.due("goBack(0)", yard.goBack(0), Due.NOT);
        Due.due("goBack(1)", yard.goBack(1), Due.NOT);
        Due.due("the seed stays", yard.seed(0), 77);
        Due.due("piece(1, 0)", yard.piece(1, 0), Due.UNKNOWN);
        Due.due("yard(2)", yard.yard(2), Due.UNKNOWN);
        Due.due("table(0, 0)", yard.table(0, 0), Due.UNKNOWN);
        Due.due("wanted(0, 0)", yard.wanted(0, 0), Due.UNKNOWN);
        yard.keep(0);
        yard.cut(0, 0, 1);
        yard.left(1, 1, 1);
        yard.seed(5);
        Due.due("shop() of nothing", yard.shop(), 0);
        Due.due("no image", yard.goBack(0), Due.NOT);
        Due.due("nothing told", yard.tear(), 0);
        Due.due("the seed stays", yard.seed(0), 5);
    }

    /** Nothing of the shops ahead of it, the last or an earlier one, is left in a smaller shop. */
    private static void shopAfterShop() {
        WhateverYard yard = Due.open(FULL_SHOP);
        shopAgain(yard, "d1;u2;u3;p1 4;", 1, 2, 0, 1, 0, 0, 0, 0, 12, 0, 0, 0, 1);
        shopAgain(yard, "d2;u4;u6;p1 2;n0 5;", 2, 2, 0, 1, 1, 0, 0, 0, 12, 0, 0, 0, 1);
        Due.due("piece(0, 1)", yard.piece(0, 1), 1);
        Due.due("piece(0, 2)", yard.piece(0, 2), 2);
        Due.due("wanted(0, 1)", yard.wanted(0, 1), 5);
        Due.due("agree()", yard.agree(), 1);
        Due.due("clash()", yard.clash(), Due.NONE);
        Due.due("slips()", yard.slips(), 0);
        Due.due("most(0, 1, 9, -1)", yard.most(0, 1, 9, -1), Due.NONE);
        Due.due("gain(0)", yard.gain(0), Due.NONE);
        Due.due("leastDues()", yard.leastDues(), 0);
        Due.due("cutting(-1), want too long", yard.cutting(-1), Due.NONE);
        Due.due("remnants()", yard.remnants(), 0);
        Due.due("boughtFor()", yard.boughtFor(), 3);
        shopAgain(yard, "d3;u4;p0 6;n0 5;", 3, 1, 0, 1, 1, 0, 0, 0, 24, 0, 0, 0, 1);
        Due.due("cutting(-1)", yard.cutting(-1), 4);
        Due.due("piece(0, 1)", yard.piece(0, 1), 0);
        shopAgain(yard, "d2;u4;u6;t1 0 7 5;", 2, 2, 1, 0, 0, 0, 0, 0, 0, 0, 0, 0, 1);
        int[] table = {1, 0, 7, 5};
        for (int what = 0; what < 4; what++) Due.due("table(0, " + what + ")", yard.table(0, what), table[what]);
        Due.due("most(0, 1, 9, -1)", yard.most(0, 1, 9, -1), Due.NONE);
        Due.due("most(1, 0, 9, -1)", yard.most(1, 0, 9, -1), 6);
        Due.due("gain(0)", yard.gain(0), Due.NONE);
        shopsOfManyWants();
    }

    private static void shopsOfManyWants() {
        WhateverYard yard = Due.open(FULL_SHOP);
        yard.cutting(0);
        shopAgain(yard, "d4;u1;p0 1;n0 5;", 4, 1, 0, 1, 1, 0, 0, 0, 1, 0, 0, 0, 1);
        Due.due("cutting(-1), only gone pieces would do", yard.cutting(-1), Due.NONE);
        Due.due("cutting(0)", yard.cutting(0), Due.NONE);
        shopAgain(yard, " ", 0, 0, 0, 0, 0, 0, 0, 0, 0, 0, 0, 0, 0);
        Due.due("cutting(-1) of no shop", yard.cutting(-1), 0);
        shopAgain(yard, "d0;u1;u2;t0 1 1 1;t1 0 1 5;", 0, 2, 2, 0, 0, 0, 0, 0, 0, 0, 0, 0, 1);
        Due.due("gain(1) by two tables", yard.gain(1), 500);
        shopAgain(yard, "", 0, 0, 0, 0, 0, 0, 0, 0, 0, 0, 0, 0, 0);
        shopAgain(yard, "d0;u1;u2;t0 1 1 1;", 0, 2, 1, 0, 0, 0, 0, 0, 0, 0, 0, 0, 1);
        Due.due("gain(1) by one", yard.gain(1), Due.NONE);
        Due.due("leastDues() by one", yard.leastDues(), 0);
        shopAgain(yard, "", 0, 0, 0, 0, 0, 0, 0, 0, 0, 0, 0, 0, 0);
        for (int again = 0; again < 2; again++) {
            shopAgain(yard, "d0;u1;u2;u3;t0 1 2 3;t2 1 3 4;", 0, 3, 2, 0, 0, 0, 0, 0, 0, 0, 0, 0, 1);
            shopAgain(yard, "", 0, 0, 0, 0, 0, 0, 0, 0, 0, 0, 0, 0, 0);
        }
    }

    private static void shopAgain(WhateverYard yard, String text, int... told) {
        Due.feed(yard, text);
        Due.due("shop() of '" + text + "' on an old object", yard.shop(), told[1]);
        for (int what = 0; what < told.length; what++) {
            Due.due("'" + text + "': told(" + what + ")", yard.told(what), told[what]);
        }
    }

    /** Letters of a longer text ahead of it are not read again. */
    private static void textAfterText() {
        String[][] texts = {{"d10;", "d10", "3"}, {"d10;", "d1", "2"}, {"d1   ;", "d1", "2"}, {"d1;u9;", "d1;u", "4"},
            {"d1;u9;", "d1;u9", "5"}, {"d1;u1;u1;t0 1 1 1;", "d1;u1;u1;t0", "11"}};
        for (String[] text : texts) {
            WhateverYard yard = Due.open(text[0]);
            Due.feed(yard, text[1]);
            Due.due("shop() of '" + text[1] + "' behind '" + text[0] + "'", yard.shop(), -11);
            Due.due("fault() of '" + text[1] + "' behind '" + text[0] + "'", yard.fault(), Integer.parseInt(text[2]));
        }
    }

    private static void fault(String text, int number, int place) {
        WhateverYard yard = new WhateverYard();
        Due.feed(yard, text);
        Due.due("shop() of '" + text + "'", yard.shop(), -10 - number);
        Due.due("fault() of '" + text + "'", yard.fault(), place);
        Due.due("letters left of '" + text + "'", yard.told(5), 0);
        Due.due("a shop of '" + text + "'", yard.told(12), 0);
    }
}
