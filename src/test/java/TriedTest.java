/** Promises 15 to 24: what is tried without changing anything. */
public final class TriedTest {
    private static final String FOUR_USES = "d0;u9;u9;u9;u9;";

    public static void main(String[] args) {
        agreeing();
        clashing();
        slipping();
        mostYards();
        mostOfLikeOnes();
        mostRefusals();
        gains();
        gainRefusals();
        dues();
        cuttings();
        cuttingsOfLikeOnes();
        noCuttings();
        honestUses();
        honestRefusals();
        remnants();
        shrouds();
        nothingChanges();
        Due.end();
    }

    private static void heights(String tables, int agree, int clash, int slips) {
        WhateverYard yard = Due.open(tables);
        Due.due("agree() of '" + tables + "'", yard.agree(), agree);
        Due.due("clash() of '" + tables + "'", yard.clash(), clash);
        Due.due("slips() of '" + tables + "'", yard.slips(), slips);
    }

    private static void agreeing() {
        heights("d0;", 1, Due.NONE, 0);
        heights(FOUR_USES, 1, Due.NONE, 0);
        heights(FOUR_USES + "t0 1 2 3;", 1, Due.NONE, 0);
        heights(FOUR_USES + "t0 1 2 3;t1 0 3 2;", 1, Due.NONE, 0);
        heights(FOUR_USES + "t0 1 2 3;t1 0 6 4;", 1, Due.NONE, 0);
        heights(FOUR_USES + "t0 1 2 3;t1 2 3 1;t2 0 1 2;", 1, Due.NONE, 0);
        heights(FOUR_USES + "t2 3 7 5;t3 2 5 7;t1 3 7 10;t2 1 2 1;", 1, Due.NONE, 0);
        heights("d0;u1;u1;u1;u1;u1;u1;t4 5 20 1;t3 4 1 20;t2 3 20 1;t1 2 1 20;t0 1 20 1;t5 0 1 20;", 1, Due.NONE, 0);
        // Two joined parts meet by the last table only.
        heights("d0;u1;u1;u1;u1;u1;u1;t5 4 3 4;t4 3 5 7;t2 1 2 9;t1 0 3 1;t5 2 1 11;t3 0 20 1;", 0, 5, 63);
    }

    private static void clashing() {
        heights(FOUR_USES + "t0 1 2 3;t1 0 2 3;", 0, 1, 3);
        heights(FOUR_USES + "t0 1 2 3;t1 2 3 1;t2 0 1 3;", 0, 2, 7);
        heights(FOUR_USES + "t0 1 1 1;t2 3 1 1;t3 2 2 1;t1 0 2 1;", 0, 2, 0);
        heights(FOUR_USES + "t0 1 1 1;t1 0 1 2;t2 3 1 1;t3 2 1 1;", 0, 1, 3);
        heights("d0;u1;u1;u1;u1;u1;u1;t0 1 20 1;t1 2 20 1;t2 3 20 1;t3 4 20 1;t4 5 20 1;t5 0 1 20;t0 5 20 1;", 0, 5, 31);
    }

    private static void slipping() {
        // Table 0 is against two ways around it: it alone is the slip.
        heights(FOUR_USES + "t0 1 1 2;t1 0 1 1;t0 2 1 1;t2 1 1 1;", 0, 1, 1);
        heights(FOUR_USES + "t1 0 1 1;t0 2 1 1;t2 1 1 1;t0 1 1 2;", 0, 3, 8);
        heights(FOUR_USES + "t1 0 1 1;t0 1 2 1;", 0, 1, 3);
        heights("d0;u1;u1;u1;u1;u1;u1;t0 1 1 1;t1 2 1 1;t0 2 1 1;t3 4 1 1;t4 5 1 1;t0 3 1 1;t1 4 1 1;t3 5 1 2;", 0, 7, 144);
    }

    /** Written as: the YARDS, how many TURNS, the TABLES; or NONE alone. */
    private static void way(WhateverYard yard, int a, int b, int n, int yards, int... tables) {
        String call = "most(" + a + ", " + b + ", " + n + ", ";
        Due.due(call + "-1)", yard.most(a, b, n, -1), yards);
        Due.due(call + "-2)", yard.most(a, b, n, -2), tables.length);
        for (int i = 0; i < 6; i++) {
            Due.due(call + i + ")", yard.most(a, b, n, i), i < tables.length ? tables[i] : Due.NONE);
        }
        Due.due(call + "-3)", yard.most(a, b, n, -3), Due.NONE);
    }

    private static void noWay(WhateverYard yard, int a, int b, int n) {
        for (int i = -3; i < 6; i++) {
            Due.due("most(" + a + ", " + b + ", " + n + ", " + i + ")", yard.most(a, b, n, i), Due.NONE);
        }
    }

    private static void mostYards() {
        WhateverYard yard = Due.open("d50;u9;u9;u9;u9;t0 1 1 2;t1 0 1 1;t1 2 20 1;");
        way(yard, 0, 0, 3, 12, 0, 1, 0, 1);
        way(yard, 0, 1, 3, 12, 0, 1, 0);
        way(yard, 1, 1, 3, 12, 1, 0, 1, 0);
        way(yard, 1, 0, 3, 6, 1, 0, 1);
        way(yard, 0, 2, 1, 0, 0, 2);
        way(yard, 0, 2, 5, 1, 0, 1, 0, 2);
        way(yard, 0, 2, 10, 2, 0, 1, 0, 2);
        way(yard, 2, 2, 99, 99);
        way(yard, 3, 3, 1, 1);
        noWay(yard, 2, 0, 99);
        noWay(yard, 0, 3, 99);
        noWay(yard, 3, 0, 99);
        yard = Due.open("d0;u9;u9;t0 1 1 20;t1 0 1 20;");
        way(yard, 0, 0, 99, 15840000, 0, 1, 0, 1);
        way(yard, 0, 1, 1, 8000, 0, 1, 0);
        yard = Due.open("d0;u9;u9;u9;u9;u9;u9;t0 1 1 1;t1 2 1 1;t2 3 1 1;t3 4 1 1;t4 5 1 1;");
        way(yard, 0, 4, 7, 7, 0, 1, 2, 3);
        noWay(yard, 0, 5, 7);
        // Whole yards each time: 5 are 3, 3 are 4 of the last.
        yard = Due.open("d0;u9;u9;u9;t0 1 3 2;t1 2 2 3;");
        way(yard, 0, 2, 5, 4, 0, 1);
        // Turning loses, so no turn is best.
        yard = Due.open("d0;u9;u9;t0 1 2 1;t1 0 1 1;");
        way(yard, 0, 0, 5, 5);
        way(yard, 0, 1, 1, 0, 0);
    }

    private static void mostOfLikeOnes() {
        WhateverYard yard = Due.open(FOUR_USES + "t0 2 1 1;t2 1 1 1;t0 1 1 1;");
        way(yard, 0, 1, 5, 5, 2);
        yard = Due.open(FOUR_USES + "t3 1 1 1;t2 1 1 1;t0 2 1 1;t0 3 1 1;");
        way(yard, 0, 1, 5, 5, 2, 1);
        yard = Due.open(FOUR_USES + "t0 3 1 1;t2 1 1 1;t0 2 1 1;t3 1 1 1;");
        way(yard, 0, 1, 5, 5, 0, 3);
        // There and back changes nothing: fewest turns.
        yard = Due.open(FOUR_USES + "t0 1 1 1;t1 0 1 1;");
        way(yard, 0, 0, 8, 8);
        way(yard, 0, 1, 8, 8, 0);
        // Longer by tables of lesser numbers, but no more.
        yard = Due.open(FOUR_USES + "t0 1 2 4;t1 2 1 1;t0 2 1 2;");
        way(yard, 0, 2, 6, 12, 2);
        way(yard, 0, 2, 7, 14, 2);
    }

    private static void mostRefusals() {
        WhateverYard yard = Due.open(FOUR_USES + "t0 1 1 1;");
        Due.due("most(4, 0, 1, -1)", yard.most(4, 0, 1, -1), Due.UNKNOWN);
        Due.due("most(-1, 0, 1, -1)", yard.most(-1, 0, 1, -1), Due.UNKNOWN);
        Due.due("most(0, 4, 1, -1)", yard.most(0, 4, 1, -1), Due.UNKNOWN);
        Due.due("most(0, -1, 0, -1)", yard.most(0, -1, 0, -1), Due.UNKNOWN);
        Due.due("most(0, 1, 0, -1)", yard.most(0, 1, 0, -1), Due.OUTSIDE);
        Due.due("most(0, 1, 100, -1)", yard.most(0, 1, 100, -1), Due.OUTSIDE);
        Due.due("most(0, 1, -5, 7)", yard.most(0, 1, -5, 7), Due.OUTSIDE);
        Due.due("most(0, 1, 99, -1)", yard.most(0, 1, 99, -1), 99);
        Due.due("most(0, 1, 1, 1000000)", yard.most(0, 1, 1, 1000000), Due.NONE);
        Due.due("most(0, 1, 1, -1000000)", yard.most(0, 1, 1, -1000000), Due.NONE);
    }

    private static void gain(String text, int use, int yards) {
        WhateverYard yard = Due.open(text);
        Due.due("gain(0) of '" + text + "'", yard.gain(0), use);
        Due.due("gain(1) of '" + text + "'", yard.gain(1), yards);
    }

    private static void gains() {
        gain("d0;", Due.NONE, Due.NONE);
        gain(FOUR_USES + "t0 1 1 20;", Due.NONE, Due.NONE);
        gain(FOUR_USES + "t0 1 1 2;t1 0 2 1;", Due.NONE, Due.NONE);
        gain("d99;u9;u9;t0 1 1 2;t1 0 1 1;", 0, 80);
        gain(FOUR_USES + "t0 1 19 20;t1 0 1 1;", 0, 22);
        // From use 1: 22, 27, 30, 37; from use 2: 25, 28, 35, 40.
        gain("d0;u9;u9;u9;t1 2 7 8;t2 1 4 5;", 2, 40);
        gain("d0;u9;u9;u9;t2 1 7 8;t1 2 4 5;", 1, 40);
        // Round by three and by four turns.
        gain(FOUR_USES + "t1 2 1 1;t2 3 1 1;t3 1 1 3;", 1, 60);
        gain(FOUR_USES + "t0 1 1 1;t1 2 1 1;t2 3 1 1;t3 0 19 20;", 0, 21);
        gain("d0;u9;u9;u9;u9;u9;t0 1 1 2;t1 2 1 2;t2 3 1 2;t3 4 1 2;t4 0 1 2;", Due.NONE, Due.NONE);
        // A gain of one yard is one; less than a whole one is none.
        gain("d0;u9;u9;t0 1 20 19;t1 0 9 10;", 0, 21);
        gain("d0;u9;u9;t0 1 20 19;t1 0 18 19;", Due.NONE, Due.NONE);
    }

    private static void gainRefusals() {
        WhateverYard yard = new WhateverYard();
        Due.due("gain(2) of no shop", yard.gain(2), Due.OUTSIDE);
        Due.due("gain(-1) of no shop", yard.gain(-1), Due.OUTSIDE);
        yard = Due.open("d0;u9;u9;t0 1 1 2;t1 0 1 1;");
        Due.due("gain(2)", yard.gain(2), Due.OUTSIDE);
        Due.due("gain(-1)", yard.gain(-1), Due.OUTSIDE);
    }

    private static void leastDues(String text, int due) {
        Due.due("leastDues() of '" + text + "'", Due.open(text).leastDues(), due);
    }

    private static void dues() {
        leastDues("d9;", 0);
        leastDues("d9;u9;u9;t0 1 1 2;t1 0 2 1;", 0);
        // By 29 of a hundred 20 of use 1 are 15, 22; by 30 they are 14, 20.
        leastDues("d9;u9;u9;t0 1 1 2;t1 0 1 1;", 30);
        // By 94 of a hundred 20 are 24, 29; by 95 they are 20, 20.
        leastDues("d9;u9;u9;t0 1 1 20;t1 0 1 20;", 95);
        // 22 yards are 21 less by 5 of a hundred, which takes nothing from 19 of them.
        leastDues("d9;u9;u9;t0 1 19 20;t1 0 1 1;", 5);
        leastDues("d9;u9;u9;u9;u9;t0 1 19 20;t1 0 1 1;t2 3 1 2;t3 2 1 1;", 30);
        leastDues("d9;u9;u9;u9;u9;t2 3 19 20;t3 2 1 1;t0 1 1 2;t1 0 1 1;", 30);
    }

    private static void cutting(WhateverYard yard, int left, int... pieces) {
        Due.due("cutting(-1)", yard.cutting(-1), left);
        for (int n = 0; n < pieces.length; n++) Due.due("cutting(" + n + ")", yard.cutting(n), pieces[n]);
        Due.due("cutting(" + pieces.length + ")", yard.cutting(pieces.length), Due.UNKNOWN);
        Due.due("cutting(-2)", yard.cutting(-2), Due.UNKNOWN);
    }

    private static void cuttings() {
        cutting(Due.open("d0;u10;p0 5;p0 10;n0 5;n0 5;"), 0, 1, 1);
        cutting(Due.open("d0;u10;p0 5;p0 9;n0 5;n0 5;"), 40, 0, 1);
        cutting(Due.open("d0;u10;p0 9;p0 5;n0 5;n0 5;"), 40, 0, 1);
        cutting(Due.open("d0;u10;p0 9;p0 5;n0 6;n0 5;"), 30, 0, 1);
        cutting(Due.open("d0;u10;p0 5;p0 9;n0 6;n0 5;"), 30, 1, 0);
        cutting(Due.open("d0;u10;u7;p1 40;p0 1;n0 1;n1 1;"), 263, 0, 0);
        // Declared for another use, it is cut all the same, by the inches of the want's own.
        cutting(Due.open("d0;u10;u7;p1 10;n0 7;"), 0, 0);
        cutting(Due.open("d0;u99;p0 20;p0 20;p0 20;p0 20;p0 20;p0 20;n0 20;n0 20;n0 20;n0 20;n0 20;n0 20;"), 0, 0, 1, 2, 3, 4, 5);
        WhateverYard yard = Due.open("d0;u10;p0 5;p0 10;n0 5;n0 5;");
        yard.cut(1, 0, 1);
        cutting(yard, 40, 0, 1);
        yard.cut(0, 0, 1);
        cutting(yard, Due.NONE, Due.NONE, Due.NONE);
        yard.undo();
        yard.undo();
        cutting(yard, 0, 1, 1);
        // A greedy first choice leaves no piece for the last want.
        cutting(Due.open("d0;u1;p0 7;p0 6;n0 4;n0 3;n0 3;n0 3;"), 0, 0, 0, 1, 1);
        cutting(Due.open("d0;u1;p0 6;p0 7;n0 3;n0 3;n0 3;n0 4;"), 0, 0, 0, 1, 1);
        cutting(Due.open("d0;u1;p0 6;p0 7;n0 3;n0 4;n0 3;n0 3;"), 0, 0, 1, 0, 1);
    }

    private static void cuttingsOfLikeOnes() {
        cutting(Due.open("d0;u10;p0 3;p0 4;p0 7;n0 3;n0 4;"), 0, 0, 1);
        cutting(Due.open("d0;u10;p0 3;p0 4;p0 7;n0 4;n0 3;"), 0, 1, 0);
        cutting(Due.open("d0;u10;p0 7;p0 4;p0 3;n0 3;n0 4;"), 0, 0, 0);
        cutting(Due.open("d0;u10;p0 7;p0 7;p0 7;n0 3;n0 4;"), 0, 0, 0);
        cutting(Due.open("d0;u10;p0 7;p0 7;p0 7;n0 5;n0 3;n0 2;"), 40, 0, 1, 0);
        cutting(Due.open("d0;u10;p0 2;p0 2;p0 2;n0 1;n0 1;n0 1;n0 1;"), 0, 0, 0, 1, 1);
    }

    private static void noCuttings() {
        cutting(new WhateverYard(), 0);
        cutting(Due.open("d0;u10;p0 3;"), 0);
        cutting(Due.open("d0;u10;n0 1;"), Due.NONE, Due.NONE);
        cutting(Due.open("d0;u10;p0 3;p0 3;n0 4;"), Due.NONE, Due.NONE);
        cutting(Due.open("d0;u10;p0 3;p0 3;n0 2;n0 2;n0 2;"), Due.NONE, Due.NONE, Due.NONE, Due.NONE);
        WhateverYard yard = Due.open("d0;u10;p0 3;n0 1;");
        yard.cut(0, 0, 3);
        cutting(yard, Due.NONE, Due.NONE);
    }

    private static void honest(WhateverYard yard, int n, int use, int over) {
        Due.due("honest(" + n + ", 0)", yard.honest(n, 0), use);
        Due.due("honest(" + n + ", 1)", yard.honest(n, 1), over);
    }

    private static void honestUses() {
        WhateverYard yard = Due.open("d0;u36;u20;u45;u36;u45;");
        honest(yard, 100, 1, 0);
        honest(yard, 360, 2, 0);
        honest(yard, 36, 0, 0);
        honest(yard, 7, 2, 7);
        honest(yard, 1, 2, 1);
        honest(yard, 37, 0, 1);
        honest(yard, 44, 1, 4);
        honest(yard, 46, 2, 1);
        honest(yard, 999, 2, 9);
        honest(Due.open("d0;u20;u36;"), 7, 1, 7);
        honest(Due.open("d0;u1;"), 999, 0, 0);
        honest(Due.open("d0;"), 999, Due.NONE, Due.NONE);
    }

    private static void honestRefusals() {
        WhateverYard yard = Due.open("d0;u36;");
        Due.due("honest(0, 0)", yard.honest(0, 0), Due.OUTSIDE);
        Due.due("honest(-1, 1)", yard.honest(-1, 1), Due.OUTSIDE);
        Due.due("honest(1000, 0)", yard.honest(1000, 0), Due.OUTSIDE);
        Due.due("honest(5, 2)", yard.honest(5, 2), Due.OUTSIDE);
        Due.due("honest(5, -1)", yard.honest(5, -1), Due.OUTSIDE);
        yard = new WhateverYard();
        Due.due("no uses: honest(0, 0)", yard.honest(0, 0), Due.OUTSIDE);
        Due.due("no uses: honest(5, 2)", yard.honest(5, 2), Due.OUTSIDE);
    }

    private static void remnants() {
        WhateverYard yard = Due.open("d0;u36;u1;p0 1;p0 2;p1 1;");
        Due.due("remnants()", yard.remnants(), 0);
        yard.cut(0, 1, 1);
        Due.due("35 inches of 36", yard.remnants(), 1);
        yard.cut(1, 1, 36);
        Due.due("36 inches of 36", yard.remnants(), 1);
        yard.cut(1, 1, 1);
        yard.cut(2, 1, 1);
        Due.due("nothing of 1", yard.remnants(), 7);
        yard.change(0, 1);
        Due.due("declared for a shorter yard", yard.remnants(), 6);
    }

    private static void shrouds() {
        WhateverYard yard = new WhateverYard();
        int[][] due = {{1, 0, 0}, {1, 10, 0}, {1, 11, 1}, {1, 100, 1}, {2, 5, 0}, {2, 6, 1}, {2, 10, 1}, {3, 50, 3}, {10, 10, 2},
            {20, 0, 0}, {20, 50, 13}, {20, 95, 20}, {20, 94, 20}, {20, 100, 20}, {4, 50, 3}, {20, 1, 1}, {20, 5, 2}};
        for (int[] one : due) Due.due("kept(" + one[0] + ", " + one[1] + ")", yard.kept(one[0], one[1]), one[2]);
        Due.due("kept(0, 5)", yard.kept(0, 5), Due.OUTSIDE);
        Due.due("kept(-1, 5)", yard.kept(-1, 5), Due.OUTSIDE);
        Due.due("kept(21, 5)", yard.kept(21, 5), Due.OUTSIDE);
        Due.due("kept(5, -1)", yard.kept(5, -1), Due.OUTSIDE);
        Due.due("kept(5, 101)", yard.kept(5, 101), Due.OUTSIDE);
        Due.due("kept(10, 10) again", yard.kept(10, 10), 2);
    }

    private static void nothingChanges() {
        WhateverYard yard = Due.open("d10;u36;u20;t0 1 1 2;t1 0 1 1;p0 10;p1 4;n0 2;n1 3;");
        yard.cut(0, 0, 1);
        yard.seed(8);
        yard.agree();
        yard.clash();
        yard.slips();
        yard.most(0, 1, 50, 0);
        yard.gain(0);
        yard.leastDues();
        yard.cutting(0);
        yard.honest(50, 0);
        yard.remnants();
        yard.kept(5, 5);
        yard.boughtFor();
        yard.ask();
        yard.judge();
        Due.dueSum(yard, "after trying", 324 + 80, 0, 0, 1);
        Due.due("piece(0, 1)", yard.piece(0, 1), 0);
        Due.due("the seed", yard.seed(0), 8);
        Due.due("D", yard.told(0), 10);
    }
}
