/** Part 2 and what is undone, sentence by sentence: the most of LENGTH, PAID and WASTE, what is cut, the bounds of each call. */
public final class ClothEdgesTest {
    /** By tables 0 and 1 to and fro, LENGTH is 9999 and 2020, and every time it falls 7979 inches are wasted. */
    private static final String WASTEFUL = "d0;u1;u99;u97;t0 1 1 20;t1 0 1 20;t2 0 20 1;t0 2 20 1;p0 40;p2 23;p0 1;p2 23;";

    public static void main(String[] args) {
        lengthAtFirst();
        cutYards();
        cutToNothing();
        wholeYardsOfA();
        wholeYardsOfB();
        duesAreCut();
        duesAreNotPaid();
        wasteOfATurn();
        mostLength();
        mostWaste();
        changedToShorter();
        changedToNoShorter();
        mostPaid();
        daysOfADrift();
        noDraws();
        tooMuchWaste();
        twentyUndone();
        eachIsUndone();
        Due.end();
    }

    /** "YARDS times Y at first, and the USE it is DECLARED for." */
    private static void lengthAtFirst() {
        WhateverYard yard = Due.open("d0;u1;u99;p0 1;p1 40;p1 1;p0 40;");
        int[][] due = {{1, 0, 1}, {3960, 1, 40}, {99, 1, 1}, {40, 0, 40}};
        for (int p = 0; p < 4; p++) {
            for (int what = 0; what < 3; what++) Due.due("piece(" + p + ", " + what + ")", yard.piece(p, what), due[p][what]);
        }
        Due.dueSum(yard, "at first", 4100, 0, 0, 0);
    }

    /** "n YARDS (1 .. 40) of a USE off a PIECE", of any USE. */
    private static void cutYards() {
        WhateverYard yard = Due.open("d99;u1;u99;p1 40;");
        Due.due("cut of none", yard.cut(0, 0, 0), Due.OUTSIDE);
        Due.due("cut of one", yard.cut(0, 0, 1), 3959);
        Due.due("cut of forty", yard.cut(0, 0, 40), 3919);
        Due.due("cut of forty-one", yard.cut(0, 0, 41), Due.OUTSIDE);
        Due.due("cut of one of its own", yard.cut(0, 1, 1), 3820);
        Due.due("declared as it was", yard.piece(0, 1), 1);
        Due.dueSum(yard, "after cuts", 3820, 0, 0, 3);
    }

    /** "NOT: it is shorter": as long is not shorter, an inch less is. */
    private static void cutToNothing() {
        WhateverYard yard = Due.open("d0;u1;u20;p1 2;p1 2;");
        Due.due("an inch", yard.cut(0, 0, 1), 39);
        Due.due("39 of 40 inches", yard.cut(0, 1, 2), Due.NOT);
        Due.due("40 of 40 inches", yard.cut(1, 1, 2), 0);
        Due.due("an inch of nothing", yard.cut(1, 0, 1), Due.NOT);
        Due.due("39 of 39 inches", yard.cut(0, 0, 39), 0);
        Due.dueSum(yard, "after cuts", 0, 0, 0, 3);
    }

    /** "LENGTH / Y of A is its YARDS", cut. */
    private static void wholeYardsOfA() {
        int[] cutOff = {0, 1, 36, 37, 71, 72};
        int[] due = {120, 80, 80, 40, 40, 40};
        for (int i = 0; i < cutOff.length; i++) {
            WhateverYard yard = Due.open("d0;u36;u20;u1;t0 1 1 2;p0 3;");
            for (int inch = 0; inch < cutOff[i]; inch++) yard.cut(0, 2, 1);
            Due.due("turn of " + (108 - cutOff[i]) + " inches", yard.turn(0, 0), due[i]);
        }
        WhateverYard yard = Due.open("d0;u36;u20;u1;t0 1 1 1;p0 1;");
        yard.cut(0, 2, 1);
        Due.due("turn of 35 inches", yard.turn(0, 0), 0);
        Due.due("declared for B all the same", yard.piece(0, 1), 1);
        Due.due("waste", yard.told(7), 35);
    }

    /** "YARDS times V / U those of B", cut. */
    private static void wholeYardsOfB() {
        WhateverYard yard = Due.open("d0;u1;u1;t0 1 20 1;t1 0 1 20;p0 19;p0 20;p0 39;p0 40;p1 40;");
        int[] due = {0, 1, 1, 2};
        for (int p = 0; p < 4; p++) Due.due("turn(" + p + ", 0)", yard.turn(p, 0), due[p]);
        Due.due("turn(4, 1)", yard.turn(4, 1), 800);
        yard = Due.open("d0;u1;u1;t0 1 19 20;t1 0 20 19;p0 18;p0 19;p1 19;p1 20;p1 21;");
        Due.due("18 times 20 / 19", yard.turn(0, 0), 18);
        Due.due("19 times 20 / 19", yard.turn(1, 0), 20);
        Due.due("19 times 19 / 20", yard.turn(2, 1), 18);
        Due.due("20 times 19 / 20", yard.turn(3, 1), 19);
        Due.due("21 times 19 / 20", yard.turn(4, 1), 19);
    }

    /** "DUES are these times D / 100 YARDS (cut; taken off the YARDS of B)": of B's YARDS, not of A's. */
    private static void duesAreCut() {
        int[][] due = {{0, 20, 20}, {1, 20, 20}, {4, 20, 20}, {5, 20, 19}, {9, 20, 19}, {10, 9, 9}, {10, 10, 9}, {10, 19, 18},
            {10, 20, 18}, {50, 1, 1}, {50, 2, 1}, {50, 3, 2}, {99, 1, 1}, {99, 2, 1}, {99, 20, 1}};
        for (int[] one : due) {
            WhateverYard yard = Due.open("d" + one[0] + ";u7;u3;t0 1 1 1;p0 " + one[1] + ";");
            Due.due("dues of " + one[0] + " of a hundred of " + one[1], yard.turn(0, 0), one[2] * 3);
        }
        WhateverYard yard = Due.open("d10;u7;u3;t0 1 1 20;t1 0 20 1;p0 5;");
        Due.due("10 of 100 yards of B", yard.turn(0, 0), 270);
        Due.due("none of 4 yards", yard.turn(0, 1), 28);
    }

    /** "PAID is not more by them." */
    private static void duesAreNotPaid() {
        WhateverYard yard = Due.open("d99;u99;u1;t0 1 1 1;t1 0 1 20;p0 40;");
        yard.change(0, 1);
        int paid = yard.told(6);
        Due.due("PAID", paid, 3920 * 99);
        yard.turn(0, 1);
        yard.turn(0, 0);
        Due.due("PAID after turns", yard.told(6), paid);
    }

    /** "Inches by which LENGTH is less by a turning (nothing, if it is not less)." */
    private static void wasteOfATurn() {
        String[] tables = {"t0 1 20 19", "t0 1 1 1", "t0 1 19 20"};
        int[] waste = {7, 0, 0};
        for (int i = 0; i < 3; i++) {
            WhateverYard yard = Due.open("d0;u7;u7;" + tables[i] + ";p0 20;");
            yard.turn(0, 0);
            Due.due("waste by " + tables[i], yard.told(7), waste[i]);
        }
        WhateverYard yard = Due.open("d0;u7;u6;t0 1 1 1;t1 0 1 1;p0 1;");
        yard.turn(0, 0);
        Due.due("one inch less", yard.told(7), 1);
        yard.turn(0, 1);
        Due.due("one inch more takes nothing back", yard.told(7), 1);
        yard.change(0, 1);
        yard.cut(0, 1, 1);
        Due.due("what is changed or cut is no waste", yard.told(7), 1);
    }

    /** "LENGTH is 9999 at most." */
    private static void mostLength() {
        WhateverYard yard = Due.open("d0;u1;u99;u98;u25;t0 1 3 8;t0 2 2 5;t0 3 1 10;p0 38;p0 40;p0 40;p0 40;");
        Due.due("101 yards of 99 inches", yard.turn(0, 0), 9999);
        Due.due("100 yards of 98 inches", yard.turn(1, 1), 9800);
        Due.due("400 yards of 25 inches", yard.turn(2, 2), 9999);
        Due.due("106 yards of 99 inches", yard.turn(3, 0), 9999);
        Due.dueSum(yard, "at the most", 3 * 9999 + 9800, 0, 0, 4);
        Due.due("yards of 9999 inches", yard.piece(2, 2), 399);
        yard.undo();
        yard.undo();
        Due.due("undone", yard.piece(2, 0), 40);
    }

    /** "PAID, WASTE are counted (999999 at most)": WASTE. */
    private static void mostWaste() {
        WhateverYard yard = Due.open(WASTEFUL);
        for (int pair = 0; pair < 125; pair++) {
            yard.turn(0, 0);
            yard.turn(0, 1);
        }
        Due.due("waste of 125 pairs", yard.told(7), 997375);
        Due.due("23 yards of 97 are one of 1", yard.turn(1, 2), 1);
        Due.due("waste", yard.told(7), 997375 + 2230);
        Due.due("waste near its end", yard.told(7), 999605);
        yard.turn(0, 0);
        yard.turn(0, 1);
        Due.due("waste at its end", yard.told(7), 999999);
        yard.turn(3, 2);
        Due.due("waste at its end again", yard.told(7), 999999);
        yard.undo();
        yard.undo();
        Due.due("waste undone", yard.told(7), 999605);
    }

    /** "If Y of that is less than Y of the one it was for, PAID is more by (LENGTH / Y of that, less LENGTH / Y ..) times D." */
    private static void changedToShorter() {
        WhateverYard yard = Due.open("d7;u36;u20;u35;u1;p0 10;p0 1;");
        Due.due("18 less 10 yards", yard.change(0, 1), 56);
        yard.change(0, 0);
        Due.due("a yard an inch shorter, 10 less 10", yard.change(0, 2), 56);
        yard.change(0, 0);
        Due.due("36 less 1 yards", yard.change(1, 3), 56 + 35 * 7);
        Due.dueSum(yard, "after changes", 396, 301, 0, 5);
        yard = Due.open("d99;u2;u1;u3;p0 1;p2 1;");
        Due.due("2 less 1 yards", yard.change(0, 1), 99);
        Due.due("1 less 1 yards", yard.change(1, 0), 99);
        yard = Due.open("d0;u36;u1;p0 40;");
        Due.due("without dues", yard.change(0, 1), 0);
        Due.due("declared all the same", yard.piece(0, 1), 1);
    }

    private static void changedToNoShorter() {
        WhateverYard yard = Due.open("d99;u20;u20;u21;u99;p0 40;");
        Due.due("as long", yard.change(0, 1), 0);
        Due.due("an inch longer", yard.change(0, 2), 0);
        Due.due("much longer", yard.change(0, 3), 0);
        Due.dueSum(yard, "after changes", 800, 0, 0, 3);
        Due.due("declared for the last", yard.piece(0, 1), 3);
    }

    /** "PAID, WASTE are counted (999999 at most)": PAID, to the last. */
    private static void mostPaid() {
        WhateverYard yard = Due.open("d99;u99;u1;u2;p0 40;p0 23;p2 7;p2 1;");
        yard.change(0, 1);
        yard.change(0, 0);
        Due.due("twice 3920 yards", yard.change(0, 1), 2 * 3920 * 99);
        Due.due("and 2254", yard.change(1, 1), 999999 - 7 * 99);
        Due.due("and 7, to the end", yard.change(2, 1), 999999);
        Due.due("and one more", yard.change(3, 1), 999999);
        Due.due("told(6)", yard.told(6), 999999);
        yard.undo();
        yard.undo();
        Due.due("undone", yard.told(6), 999999 - 7 * 99);
        yard.undo();
        yard.change(0, 0);
        Due.due("beyond the end at once", yard.change(0, 1), 999999);
    }

    /** "n days (1 .. 40)", in each two DRAWS. */
    private static void daysOfADrift() {
        for (int days : new int[] {1, 2, 39, 40}) {
            WhateverYard yard = Due.open("d0;u9;u9;t0 1 1 1;p0 1;");
            Due.due("drift(" + days + ")", yard.drift(days), 0);
            Due.due("the seed after " + days + " days", yard.seed(0), seedAfter(2 * days));
            Due.due("one can be undone", yard.told(11), 1);
        }
        WhateverYard yard = Due.open("d0;u9;u9;t0 1 1 1;p0 1;");
        Due.due("drift(0)", yard.drift(0), Due.OUTSIDE);
        Due.due("drift(41)", yard.drift(41), Due.OUTSIDE);
        Due.due("no draws", yard.seed(0), 0);
    }

    private static long seedAfter(int draws) {
        long seed = 0;
        for (int i = 0; i < draws; i++) seed = (seed * 1103515245L + 12345L) % 2147483648L;
        return seed;
    }

    /** "If there are any of both." */
    private static void noDraws() {
        for (String text : new String[] {"d0;", "d0;u9;u9;", "d0;u9;u9;t0 1 1 1;", "d0;u9;u9;p0 1;"}) {
            WhateverYard yard = Due.open(text);
            yard.seed(12);
            Due.due("drift(40) of '" + text + "'", yard.drift(40), 0);
            Due.due("no draws of '" + text + "'", yard.seed(0), 12);
            Due.due("it can be undone all the same", yard.undo(), 0);
        }
    }

    /** "FULL: WASTE is above 90000 as it is called": what it comes to by the call is no matter. */
    private static void tooMuchWaste() {
        WhateverYard yard = Due.open(WASTEFUL);
        for (int pair = 0; pair < 11; pair++) {
            yard.turn(0, 0);
            yard.turn(0, 1);
        }
        yard.turn(1, 2);
        yard.turn(2, 3);
        Due.due("waste", yard.told(7), 90000);
        int wasted = yard.drift(40);
        Due.due("drift(40) from 90000 to " + wasted, wasted > 90000 ? 1 : 0, 1);
        int seed = yard.seed(0);
        Due.due("all forty days", seed, seedAfter(80));
        Due.due("drift(1) from above", yard.drift(1), Due.FULL);
        yard.undo();
        Due.due("drift undone", yard.told(7), 90000);
        yard.turn(1, 3);
        Due.due("waste", yard.told(7), 90001);
        Due.due("drift(1) from 90001", yard.drift(1), Due.FULL);
    }

    /** "20 at most are kept, the oldest are lost." */
    private static void twentyUndone() {
        for (int done : new int[] {1, 19, 20, 21, 40, 45}) {
            WhateverYard yard = Due.open("d0;u1;u9;p1 40;");
            for (int i = 0; i < done; i++) yard.cut(0, 0, 1);
            int kept = Math.min(done, 20);
            Due.due(done + " done: how many can be undone", yard.told(11), kept);
            for (int i = kept - 1; i >= 0; i--) {
                Due.due(done + " done: undo()", yard.undo(), i);
                Due.due(done + " done: told(11)", yard.told(11), i);
                Due.due(done + " done: LENGTH", yard.piece(0, 0), 360 - done + kept - i);
            }
            Due.due(done + " done: no more", yard.undo(), Due.NOT);
            Due.due(done + " done: LENGTH at last", yard.piece(0, 0), 360 - done + kept);
            yard.cut(0, 0, 2);
            Due.due(done + " done: done again, undo()", yard.undo(), 0);
            Due.due(done + " done: LENGTH again", yard.piece(0, 0), 360 - done + kept);
        }
    }

    /** "LENGTHS, USES of PIECES, PAID, WASTE are as ahead of it; THE SEED stays": of each of the four. */
    private static void eachIsUndone() {
        WhateverYard yard = Due.open("d10;u36;u20;t0 1 2 3;t1 0 3 2;p0 10;p1 12;");
        yard.cut(0, 1, 2);
        Due.due("a cut undone", yard.undo(), 0);
        dueAtFirst(yard);
        yard.turn(0, 0);
        Due.due("a turn undone", yard.undo(), 0);
        dueAtFirst(yard);
        yard.change(0, 1);
        Due.due("a change undone", yard.undo(), 0);
        dueAtFirst(yard);
        yard.drift(40);
        int seed = yard.seed(0);
        yard.seed(seed);
        Due.due("a drift undone", yard.undo(), 0);
        dueAtFirst(yard);
        Due.due("the seed stays", yard.seed(0), seed);
    }

    private static void dueAtFirst(WhateverYard yard) {
        Due.dueSum(yard, "as at first", 600, 0, 0, 0);
        int[][] due = {{360, 0}, {240, 1}};
        for (int p = 0; p < 2; p++) {
            for (int what = 0; what < 2; what++) Due.due("piece(" + p + ", " + what + ")", yard.piece(p, what), due[p][what]);
        }
    }
}
