/** Part 3 up to KEPT, sentence by sentence: what is answered where there is nothing, what decides among like ones, the bounds. */
public final class TriedEdgesTest {
    private static final String FOUR = "d0;u9;u9;u9;u9;";
    private static final String SIX = "d0;u9;u9;u9;u9;u9;u9;";

    public static void main(String[] args) {
        agreeOfNothing();
        heightsWholeOrNot();
        heightsThatNearlyAgree();
        usesWithoutTables();
        clashIsTheFirst();
        slipsAlone();
        mostOfBounds();
        mostByTurns();
        mostWholeYards();
        mostOfFewestTurns();
        mostOfFirstTables();
        mostOfNoYards();
        mostThatIsNot();
        gainAboveTwenty();
        gainByTurns();
        gainOfLikeOnes();
        leastDuesFromNone();
        leastDuesBehindEachTurn();
        cuttingOfNothing();
        cuttingToTheInch();
        cuttingOfTouched();
        cuttingOfLikeOnes();
        honestBounds();
        honestOfLikeOnes();
        remnantsToTheInch();
        keptOfAll();
        Due.end();
    }

    private static void heights(String text, int agree, int clash, int slips) {
        WhateverYard yard = Due.open(text);
        Due.due("agree() of '" + text + "'", yard.agree(), agree);
        Due.due("clash() of '" + text + "'", yard.clash(), clash);
        Due.due("slips() of '" + text + "'", yard.slips(), slips);
    }

    /** "1 there are such", of no SHOP, no USES, no TABLES, one TABLE; "CLASH: NONE"; "SLIPS: 0, if all AGREE". */
    private static void agreeOfNothing() {
        WhateverYard yard = new WhateverYard();
        Due.due("no shop: agree()", yard.agree(), 1);
        Due.due("no shop: clash()", yard.clash(), Due.NONE);
        Due.due("no shop: slips()", yard.slips(), 0);
        heights("d0;", 1, Due.NONE, 0);
        heights("d0;u1;", 1, Due.NONE, 0);
        heights(SIX, 1, Due.NONE, 0);
        heights(SIX + "t5 0 20 1;", 1, Due.NONE, 0);
    }

    /** "U heights of A are V heights of B (whole or not)". */
    private static void heightsWholeOrNot() {
        heights(FOUR + "t0 1 3 7;t1 2 5 11;t0 2 15 19;", 0, 2, 7);
        heights(FOUR + "t0 1 3 7;t1 0 7 3;", 1, Due.NONE, 0);
        heights(FOUR + "t0 1 3 7;t1 0 14 6;", 1, Due.NONE, 0);
        heights(FOUR + "t0 1 3 7;t1 0 3 7;", 0, 1, 3);
        heights(FOUR + "t0 1 2 3;t1 2 3 5;t2 0 5 2;", 1, Due.NONE, 0);
        heights(FOUR + "t0 1 2 3;t1 2 3 5;t0 2 2 5;", 1, Due.NONE, 0);
        heights(FOUR + "t0 1 2 3;t1 2 3 5;t0 2 5 2;", 0, 2, 7);
        heights(SIX + "t0 1 19 15;t1 2 19 15;t2 3 17 17;t3 4 17 19;t4 5 15 19;t5 0 15 17;", 1, Due.NONE, 0);
        heights(SIX + "t0 1 19 17;t1 2 19 15;t2 3 17 13;t3 4 17 19;t4 5 15 17;t0 5 13 19;", 0, 5, 63);
        // Round once it is 361 for 360, then 1 for 2 of parts that are high powers of 2.
        heights(SIX + "t0 1 19 20;t1 2 19 18;t2 3 1 1;t3 4 1 1;t4 5 1 1;t5 0 1 1;", 0, 5, 63);
        heights(SIX + "t0 1 16 16;t1 2 16 16;t2 3 16 16;t3 4 16 16;t4 5 16 16;t5 4 1 2;", 0, 5, 48);
        heights(SIX + "t0 1 20 19;t1 2 20 19;t2 3 20 19;t3 4 20 19;t4 5 20 19;t1 0 19 20;t2 1 19 20;t3 2 19 20;", 1, Due.NONE, 0);
        heights(SIX + "t0 1 20 1;t1 2 20 1;t2 3 20 1;t3 4 20 1;t4 5 20 1;t5 4 1 20;t4 3 1 20;t3 2 1 20;", 1, Due.NONE, 0);
    }

    /** Six TABLES round, from any USE on, by which 5909761 would be 5909760. */
    private static void heightsThatNearlyAgree() {
        int[] given = {11, 11, 13, 13, 17, 17};
        int[] got = {3, 16, 18, 18, 19, 20};
        for (int first = 0; first < 6; first++) {
            for (int step = 1; step <= 5; step += 4) {
                StringBuilder text = new StringBuilder(SIX);
                for (int i = 0; i < 6; i++) {
                    int use = (first + i * step) % 6, u = given[(first + i) % 6], v = got[(first * 5 + i) % 6];
                    text.append("t" + use + " " + (use + step) % 6 + " " + u + " " + v + ";");
                }
                heights(text.toString(), 0, 5, 63);
            }
        }
    }

    /** "USES without any TABLE do no harm", nor do several parts without a TABLE between them. */
    private static void usesWithoutTables() {
        heights(SIX + "t4 5 2 3;t5 4 3 2;", 1, Due.NONE, 0);
        heights(SIX + "t4 5 2 3;t5 4 2 3;", 0, 1, 3);
        heights(SIX + "t0 1 2 3;t2 3 5 7;t4 5 11 13;t1 0 3 2;t3 2 7 5;t5 4 13 11;", 1, Due.NONE, 0);
        heights(SIX + "t0 1 2 3;t2 3 5 7;t4 5 11 13;t1 0 3 2;t3 2 7 5;t5 4 13 12;", 0, 5, 36);
    }

    /** "The first TABLE (told order) that does not agree with those told ahead of it." */
    private static void clashIsTheFirst() {
        heights(FOUR + "t0 1 1 1;t1 0 1 2;t1 2 1 1;t2 1 1 2;", 0, 1, 0);
        heights(FOUR + "t1 2 1 1;t0 1 1 1;t2 1 1 2;t1 0 1 2;", 0, 2, 0);
        heights(SIX + "t0 1 1 1;t1 2 1 1;t2 3 1 1;t3 4 1 1;t4 5 1 1;t5 0 1 1;t5 1 1 1;t5 2 1 2;", 0, 7, 128);
    }

    /** "TABLES of which each, left out alone, would make all others AGREE"; none of them, if two go astray. */
    private static void slipsAlone() {
        heights(FOUR + "t0 1 1 2;t1 2 1 1;t2 0 1 1;", 0, 2, 7);
        heights(FOUR + "t0 1 1 2;t1 0 1 1;t0 2 1 1;t2 0 1 1;t1 2 1 1;", 0, 1, 1);
        heights(FOUR + "t0 1 1 1;t1 0 1 2;t2 3 1 1;t3 2 1 2;", 0, 1, 0);
        heights(SIX + "t0 1 1 1;t1 2 1 1;t2 3 1 1;t3 0 1 1;t0 2 1 1;t1 3 1 1;t3 1 1 1;t2 0 1 2;", 0, 7, 128);
    }

    /** Written as: the YARDS, how many TURNS, the TABLES. */
    private static void way(WhateverYard yard, int a, int b, int n, int yards, int... tables) {
        String call = "most(" + a + ", " + b + ", " + n + ", ";
        Due.due(call + "NONE)", yard.most(a, b, n, Due.NONE), yards);
        Due.due(call + "-2)", yard.most(a, b, n, -2), tables.length);
        for (int i = 0; i < tables.length; i++) Due.due(call + i + ")", yard.most(a, b, n, i), tables[i]);
        for (int i : new int[] {-3, tables.length, tables.length + 1, 4, 5, 8, Integer.MIN_VALUE, Integer.MAX_VALUE}) {
            Due.due(call + i + "), no such i", yard.most(a, b, n, i), Due.NONE);
        }
    }

    private static void noWay(WhateverYard yard, int a, int b, int n) {
        for (int i : new int[] {Due.NONE, -2, 0, 1, 3, 4, -3}) {
            Due.due("most(" + a + ", " + b + ", " + n + ", " + i + "), no way", yard.most(a, b, n, i), Due.NONE);
        }
    }

    /** "n YARDS (1 .. 99)". */
    private static void mostOfBounds() {
        WhateverYard yard = Due.open(FOUR + "t0 1 1 2;");
        way(yard, 0, 1, 1, 2, 0);
        way(yard, 0, 1, 99, 198, 0);
        Due.due("most(0, 1, 0, -1)", yard.most(0, 1, 0, -1), Due.OUTSIDE);
        Due.due("most(0, 1, 100, -1)", yard.most(0, 1, 100, -1), Due.OUTSIDE);
        Due.due("most(0, 1, 0, -2)", yard.most(0, 1, 0, -2), Due.OUTSIDE);
        Due.due("most(0, 1, 100, 0)", yard.most(0, 1, 100, 0), Due.OUTSIDE);
        Due.due("most(0, 0, 100, -1)", yard.most(0, 0, 100, -1), Due.OUTSIDE);
        Due.due("most(2, 0, 100, -1), no way either", yard.most(2, 0, 100, -1), Due.OUTSIDE);
    }

    /** "By 0 to 4 TURNS (a TABLE may come again)". */
    private static void mostByTurns() {
        WhateverYard yard = Due.open("d99;u1;u2;u3;u4;u5;u6;t0 1 1 2;t1 2 1 2;t2 3 1 2;t3 4 1 2;t4 5 1 2;");
        way(yard, 0, 0, 3, 3);
        way(yard, 0, 1, 3, 6, 0);
        way(yard, 0, 2, 3, 12, 0, 1);
        way(yard, 0, 3, 3, 24, 0, 1, 2);
        way(yard, 0, 4, 3, 48, 0, 1, 2, 3);
        noWay(yard, 0, 5, 3);
        way(yard, 1, 5, 3, 48, 1, 2, 3, 4);
        noWay(yard, 1, 0, 3);
        yard = Due.open(FOUR + "t0 1 1 20;t1 0 1 20;");
        way(yard, 0, 0, 99, 15840000, 0, 1, 0, 1);
        way(yard, 1, 0, 99, 792000, 1, 0, 1);
        yard = Due.open(FOUR + "t0 1 1 1;t1 2 1 1;t2 0 1 2;");
        way(yard, 0, 0, 5, 10, 0, 1, 2);
        way(yard, 0, 1, 5, 10, 0, 1, 2, 0);
        way(yard, 0, 2, 5, 5, 0, 1);
    }

    /** "Whole YARDS each time, DUES not". */
    private static void mostWholeYards() {
        WhateverYard yard = Due.open("d99;u9;u9;u9;t0 1 3 2;t1 2 2 3;");
        way(yard, 0, 2, 4, 3, 0, 1);
        way(yard, 0, 2, 5, 4, 0, 1);
        way(yard, 0, 2, 6, 6, 0, 1);
    }

    /** "Of like ones fewest TURNS". */
    private static void mostOfFewestTurns() {
        WhateverYard yard = Due.open(FOUR + "t0 2 1 2;t2 1 2 1;t0 3 1 1;t3 2 1 1;t2 3 1 1;t3 1 1 1;t0 1 1 1;");
        way(yard, 0, 1, 7, 14, 0, 4, 5);
        yard = Due.open(FOUR + "t0 2 1 1;t2 3 1 1;t3 1 1 1;t2 1 1 1;t0 1 1 1;");
        way(yard, 0, 1, 7, 7, 4);
        way(yard, 0, 3, 7, 7, 0, 1);
        way(yard, 2, 1, 7, 7, 3);
        yard = Due.open(FOUR + "t0 1 1 1;t1 0 1 1;");
        way(yard, 0, 0, 7, 7);
        way(yard, 1, 0, 7, 7, 1);
        // A yard more by more TURNS goes ahead of fewer TURNS.
        yard = Due.open(FOUR + "t0 1 1 1;t0 2 20 19;t2 1 9 10;");
        way(yard, 0, 1, 20, 21, 1, 2);
        way(yard, 0, 1, 19, 20, 1, 2);
        way(yard, 0, 1, 10, 10, 0);
    }

    /** "Then the first by numbers of TABLES": the first TABLE's decides, then the second's. */
    private static void mostOfFirstTables() {
        WhateverYard yard = Due.open(FOUR + "t3 1 1 1;t2 1 1 1;t0 2 1 1;t0 3 1 1;");
        way(yard, 0, 1, 5, 5, 2, 1);
        yard = Due.open(FOUR + "t2 1 1 1;t3 1 1 1;t0 3 1 1;t0 2 1 1;");
        way(yard, 0, 1, 5, 5, 2, 1);
        yard = Due.open(SIX + "t0 1 1 1;t1 3 1 1;t1 2 1 1;t2 5 1 1;t3 5 1 1;");
        way(yard, 0, 5, 5, 5, 0, 1, 4);
        yard = Due.open(SIX + "t4 5 1 1;t3 5 1 1;t2 4 1 1;t2 3 1 1;t1 2 1 1;t0 1 1 1;");
        way(yard, 0, 5, 5, 5, 5, 4, 2, 0);
    }

    /** "One by which they become 0 YARDS does; A and B alike: 0 TURNS may be the best". */
    private static void mostOfNoYards() {
        WhateverYard yard = Due.open(FOUR + "t0 1 2 1;t1 2 1 20;t2 0 1 1;");
        way(yard, 0, 1, 1, 0, 0);
        way(yard, 0, 2, 1, 0, 0, 1);
        way(yard, 0, 0, 1, 1);
        way(yard, 0, 0, 2, 20, 0, 1, 2);
        way(yard, 3, 3, 99, 99);
    }

    /** "NONE: none leads there". */
    private static void mostThatIsNot() {
        WhateverYard yard = Due.open(FOUR + "t0 1 1 1;");
        noWay(yard, 1, 0, 9);
        noWay(yard, 0, 2, 9);
        noWay(yard, 2, 3, 99);
        way(yard, 0, 1, 9, 9, 0);
        noWay(yard, 1, 0, 9);
        yard = Due.open(FOUR);
        noWay(yard, 0, 1, 1);
        way(yard, 1, 1, 1, 1);
    }

    private static void gain(String text, int use, int yards) {
        WhateverYard yard = Due.open(text);
        Due.due("gain(0) of '" + text + "'", yard.gain(0), use);
        Due.due("gain(1) of '" + text + "'", yard.gain(1), yards);
    }

    /** "20 YARDS become more than 20 of itself", and NONE. */
    private static void gainAboveTwenty() {
        WhateverYard yard = new WhateverYard();
        Due.due("no shop: gain(0)", yard.gain(0), Due.NONE);
        Due.due("no shop: gain(1)", yard.gain(1), Due.NONE);
        gain("d0;u1;", Due.NONE, Due.NONE);
        gain(FOUR, Due.NONE, Due.NONE);
        gain(FOUR + "t0 1 1 20;t2 1 1 20;t0 3 1 20;", Due.NONE, Due.NONE);
        gain("d0;u9;u9;t0 1 1 1;t1 0 1 1;", Due.NONE, Due.NONE);
        gain("d0;u9;u9;t0 1 20 1;t1 0 1 20;", Due.NONE, Due.NONE);
        gain("d0;u9;u9;t0 1 20 19;t1 0 9 10;", 0, 21);
        gain("d99;u9;u9;t0 1 20 1;t1 0 1 1;", Due.NONE, Due.NONE);
    }

    /** "By 1 to 4 TURNS (as for MOST)": DUES are not taken. */
    private static void gainByTurns() {
        gain("d99;u1;u99;t0 1 1 2;t1 0 1 1;", 0, 80);
        gain("d5;u1;u99;t0 1 1 20;t1 0 19 1;", 0, 22);
        gain(SIX + "t0 1 1 2;t1 0 1 1;", 0, 80);
        gain(SIX + "t0 1 1 1;t1 2 1 1;t2 0 1 2;", 0, 40);
        gain(SIX + "t0 1 1 1;t1 2 1 1;t2 3 1 1;t3 0 1 2;", 0, 40);
        gain(SIX + "t0 1 1 2;t1 2 1 2;t2 3 1 2;t3 4 1 2;t4 0 1 2;", Due.NONE, Due.NONE);
    }

    /** "Most of all; of like ones the least". */
    private static void gainOfLikeOnes() {
        gain(SIX + "t4 5 1 2;t5 4 1 2;t2 3 1 3;t3 2 1 2;", 2, 720);
        gain(SIX + "t2 3 1 2;t3 2 1 2;t4 5 1 3;t5 4 1 2;", 4, 720);
        gain(SIX + "t4 5 1 3;t5 4 1 2;t3 2 1 3;t2 3 1 2;", 2, 720);
        gain(SIX + "t5 4 1 1;t4 5 1 2;", 4, 80);
    }

    private static void leastDues(String text, int due) {
        Due.due("leastDues() of '" + text + "'", Due.open(text).leastDues(), due);
    }

    /** "The least D (0 .. 99)": 0 where no USE GAINS without any. */
    private static void leastDuesFromNone() {
        Due.due("leastDues() of no shop", new WhateverYard().leastDues(), 0);
        leastDues("d99;", 0);
        leastDues("d50;u9;u9;t0 1 1 1;t1 0 1 1;", 0);
        leastDues("d50;u9;u9;t0 1 1 20;", 0);
        leastDues("d50;" + SIX.substring(3) + "t0 1 1 2;t1 2 1 2;t2 3 1 2;t3 4 1 2;t4 0 1 2;", 0);
        leastDues("d0;u9;u9;t0 1 20 1;t1 0 1 20;", 0);
        // 21 yards are 20 less by 5 of a hundred, and by 4 still 21.
        leastDues("d0;u9;u9;t0 1 20 19;t1 0 9 10;", 5);
        leastDues("d99;u9;u9;t0 1 1 20;t1 0 1 20;", 95);
    }

    /** "Taken (YARDS times D / 100, cut) behind each TURN, by which no USE GAINS": the USE that gains longest decides. */
    private static void leastDuesBehindEachTurn() {
        // By 29 of a hundred 20 of use 1 are 15, 22; by 30 they are 14, 20.
        leastDues("d9;u9;u9;t0 1 1 2;t1 0 1 1;", 30);
        leastDues("d9;u9;u9;t1 0 1 2;t0 1 1 1;", 30);
        leastDues("d9;" + SIX.substring(3) + "t4 5 1 20;t5 4 1 20;t0 1 1 2;t1 0 1 1;", 95);
        leastDues("d9;" + SIX.substring(3) + "t0 1 1 20;t1 0 1 20;t4 5 1 2;t5 4 1 1;", 95);
    }

    private static void cutting(WhateverYard yard, int left, int... pieces) {
        Due.due("cutting(NONE)", yard.cutting(Due.NONE), left);
        for (int n = 0; n < pieces.length; n++) Due.due("cutting(" + n + ")", yard.cutting(n), pieces[n]);
        for (int n : new int[] {-2, pieces.length, 6, Integer.MIN_VALUE, Integer.MAX_VALUE}) {
            Due.due("cutting(" + n + "), no such want", yard.cutting(n), Due.UNKNOWN);
        }
    }

    /** "(No WANTS: 0.)"; "NONE". */
    private static void cuttingOfNothing() {
        cutting(new WhateverYard(), 0);
        cutting(Due.open("d0;"), 0);
        cutting(Due.open("d0;u1;p0 5;"), 0);
        cutting(Due.open("d0;u1;n0 1;"), Due.NONE, Due.NONE);
        cutting(Due.open("d0;u1;n0 1;n0 1;n0 1;n0 1;n0 1;n0 1;"), Due.NONE, Due.NONE, Due.NONE, Due.NONE, Due.NONE, Due.NONE, Due.NONE);
        cutting(Due.open("d0;u1;p0 1;n0 2;"), Due.NONE, Due.NONE);
        // All but one can be cut: no WANT has a PIECE.
        cutting(Due.open("d0;u1;p0 5;n0 1;n0 6;"), Due.NONE, Due.NONE, Due.NONE);
        cutting(Due.open("d0;u1;p0 3;p0 3;p0 3;n0 2;n0 2;n0 2;n0 2;"), Due.NONE, Due.NONE, Due.NONE, Due.NONE, Due.NONE);
    }

    /** "Each WANT from one PIECE (N times Y of its USE, whatever the PIECE is DECLARED for)". */
    private static void cuttingToTheInch() {
        cutting(Due.open("d0;u1;u7;p1 1;n0 7;"), 0, 0);
        cutting(Due.open("d0;u1;u7;p1 1;n0 8;"), Due.NONE, Due.NONE);
        cutting(Due.open("d0;u1;u7;p0 14;n1 2;"), 0, 0);
        cutting(Due.open("d0;u1;u7;p0 13;n1 2;"), Due.NONE, Due.NONE);
        WhateverYard yard = Due.open("d0;u1;u7;p0 14;n1 1;");
        cutting(yard, 7, 0);
        yard.cut(0, 0, 7);
        cutting(yard, 0, 0);
        yard.change(0, 1);
        cutting(yard, 0, 0);
        yard.cut(0, 0, 1);
        cutting(yard, Due.NONE, Due.NONE);
        yard.cut(0, 0, 6);
        cutting(yard, Due.NONE, Due.NONE);
        cutting(Due.open("d0;u99;p0 40;n0 20;n0 20;"), 0, 0, 0);
        cutting(Due.open("d0;u99;p0 40;n0 20;n0 20;n0 1;"), Due.NONE, Due.NONE, Due.NONE, Due.NONE);
    }

    /** "Least is left of PIECES that are touched at all": the others do not count. */
    private static void cuttingOfTouched() {
        cutting(Due.open("d0;u1;p0 40;p0 5;p0 6;n0 5;"), 0, 1);
        cutting(Due.open("d0;u1;p0 40;p0 6;p0 5;n0 5;n0 6;"), 0, 2, 1);
        cutting(Due.open("d0;u1;p0 11;p0 12;p0 13;n0 5;n0 5;"), 1, 0, 0);
        cutting(Due.open("d0;u1;p0 9;p0 8;p0 20;n0 5;n0 5;"), 7, 0, 1);
        cutting(Due.open("d0;u1;p0 9;p0 9;p0 17;n0 5;n0 5;"), 7, 2, 2);
        cutting(Due.open("d0;u1;p0 1;p0 2;p0 3;p0 4;p0 5;p0 6;n0 6;n0 5;n0 4;n0 3;n0 2;n0 1;"), 0, 5, 4, 3, 2, 1, 0);
    }

    /** "Of like ones the first (WANT by WANT the lesser PIECE)". */
    private static void cuttingOfLikeOnes() {
        cutting(Due.open("d0;u1;p0 5;p0 5;p0 5;n0 5;n0 5;"), 0, 0, 1);
        cutting(Due.open("d0;u1;p0 6;p0 6;n0 5;n0 5;"), 2, 0, 1);
        cutting(Due.open("d0;u1;p0 9;p0 9;n0 3;n0 3;n0 3;"), 0, 0, 0, 0);
        cutting(Due.open("d0;u1;p0 4;p0 8;p0 12;n0 4;n0 8;"), 0, 0, 1);
        cutting(Due.open("d0;u1;p0 12;p0 8;p0 4;n0 4;n0 8;"), 0, 0, 0);
        cutting(Due.open("d0;u1;p0 8;p0 12;p0 4;n0 4;n0 8;"), 0, 1, 1);
        cutting(Due.open("d0;u1;p0 4;p0 4;p0 8;n0 4;n0 4;"), 0, 0, 1);
        cutting(Due.open("d0;u1;p0 2;p0 4;p0 4;n0 2;n0 2;n0 2;"), 0, 0, 1, 1);
    }

    private static void honest(WhateverYard yard, int n, int use, int over) {
        Due.due("honest(" + n + ", 0)", yard.honest(n, 0), use);
        Due.due("honest(" + n + ", 1)", yard.honest(n, 1), over);
    }

    /** "For n inches (1 .. 999)"; "NONE: no USES". */
    private static void honestBounds() {
        for (WhateverYard yard : new WhateverYard[] {new WhateverYard(), Due.open("d0;")}) {
            honest(yard, 1, Due.NONE, Due.NONE);
            honest(yard, 999, Due.NONE, Due.NONE);
            Due.due("no uses: honest(0, 0)", yard.honest(0, 0), Due.OUTSIDE);
            Due.due("no uses: honest(1000, 1)", yard.honest(1000, 1), Due.OUTSIDE);
            Due.due("no uses: honest(1, -1)", yard.honest(1, -1), Due.OUTSIDE);
            Due.due("no uses: honest(1, 2)", yard.honest(1, 2), Due.OUTSIDE);
        }
        WhateverYard yard = Due.open("d0;u99;");
        honest(yard, 1, 0, 1);
        honest(yard, 98, 0, 98);
        honest(yard, 99, 0, 0);
        honest(yard, 100, 0, 1);
        honest(yard, 999, 0, 9);
        Due.due("honest(0, 0)", yard.honest(0, 0), Due.OUTSIDE);
        Due.due("honest(1000, 0)", yard.honest(1000, 0), Due.OUTSIDE);
    }

    /** "Of like ones the one of longer YARD, then the least". */
    private static void honestOfLikeOnes() {
        honest(Due.open("d0;u10;u20;u40;u40;u20;"), 80, 2, 0);
        honest(Due.open("d0;u40;u20;u40;u10;"), 80, 0, 0);
        honest(Due.open("d0;u10;u20;u40;"), 85, 2, 5);
        honest(Due.open("d0;u10;u20;u40;"), 90, 0, 0);
        honest(Due.open("d0;u40;u20;u10;"), 60, 1, 0);
        honest(Due.open("d0;u50;u60;"), 9, 1, 9);
        honest(Due.open("d0;u99;u98;"), 98, 1, 0);
    }

    /** "Too short for a YARD of what they are DECLARED for": a YARD is long enough, an inch less is not. */
    private static void remnantsToTheInch() {
        Due.due("no shop: remnants()", new WhateverYard().remnants(), 0);
        Due.due("no pieces: remnants()", Due.open("d0;u9;").remnants(), 0);
        WhateverYard yard = Due.open("d0;u99;u1;p0 1;p1 1;p0 2;p0 1;p1 1;p0 1;");
        Due.due("whole yards", yard.remnants(), 0);
        yard.cut(0, 1, 1);
        Due.due("98 of 99 inches", yard.remnants(), 1);
        yard.cut(5, 1, 1);
        Due.due("the last too", yard.remnants(), 33);
        yard.cut(1, 1, 1);
        Due.due("nothing of an inch", yard.remnants(), 35);
        yard.change(4, 0);
        Due.due("an inch of 99", yard.remnants(), 51);
        yard.change(0, 1);
        Due.due("98 of an inch", yard.remnants(), 50);
        yard.cut(2, 0, 1);
        Due.due("99 of 99 inches", yard.remnants(), 50);
        yard.cut(2, 1, 1);
        yard.cut(3, 0, 1);
        Due.due("all but the first", yard.remnants(), 62);
    }

    /** KEPT of all people and odds that are let in, and "by 900000 of a MILLION or more" at that number itself. */
    private static void keptOfAll() {
        WhateverYard yard = new WhateverYard();
        Due.due("kept(1, 10), 900000 of a million", yard.kept(1, 10), 0);
        Due.due("kept(1, 11), 890000 of a million", yard.kept(1, 11), 1);
        Due.due("kept(20, 0)", yard.kept(20, 0), 0);
        Due.due("kept(20, 100)", yard.kept(20, 100), 20);
        Due.due("kept(20, 99)", yard.kept(20, 99), 20);
        Due.due("kept(1, 100)", yard.kept(1, 100), 1);
        Due.due("kept(1, 0)", yard.kept(1, 0), 0);
        Model model = new Model();
        for (int n = 1; n <= 20; n++) {
            yard = new WhateverYard();
            for (int q = 0; q <= 100; q++) Due.due("kept(" + n + ", " + q + ")", yard.kept(n, q), model.kept(n, q));
        }
        int[][] beyond = {{0, 0}, {21, 0}, {1, -1}, {1, 101}, {0, -1}, {21, 101}};
        for (int[] one : beyond) Due.due("kept(" + one[0] + ", " + one[1] + ")", yard.kept(one[0], one[1]), Due.OUTSIDE);
    }
}
