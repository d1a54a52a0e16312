/** Promises 10 to 14: pieces cut, turned, changed, drifting by draws, and all that undone. */
public final class DoneTest {
    private static final String SHOP = "d10;u36;u20;u45;u36;t0 1 2 3;t1 2 3 1;t2 0 1 2;t0 3 1 1;p0 10;p1 12;p2 4;";
    /** Every pair of turns of piece 0 by tables 0 and 1 wastes 9999 - 2020 = 7979 inches from the second on. */
    private static final String WASTEFUL = "d0;u1;u99;u97;t0 1 1 20;t1 0 1 20;t2 0 20 1;t0 2 20 1;p0 40;p2 23;p0 1;";

    public static void main(String[] args) {
        cuts();
        cutRefusals();
        turns();
        turnRefusals();
        turnLimits();
        changes();
        changeRefusals();
        paidLimit();
        drifts();
        driftRefusals();
        driftWithoutDraws();
        driftWhenWasteful();
        undone();
        twentyUndone();
        Due.end();
    }

    private static void cuts() {
        WhateverYard yard = Due.open(SHOP);
        Due.due("cut(0, 1, 3)", yard.cut(0, 1, 3), 300);
        Due.dueSum(yard, "after a cut", 300 + 240 + 180, 0, 0, 1);
        Due.due("declared as before", yard.piece(0, 1), 0);
        Due.due("cut(0, 0, 8)", yard.cut(0, 0, 8), 12);
        Due.due("piece(0, 0)", yard.piece(0, 0), 12);
        Due.due("piece(0, 2)", yard.piece(0, 2), 0);
        Due.due("cut(2, 2, 4), to the last inch", yard.cut(2, 2, 4), 0);
        Due.due("cut(1, 1, 12)", yard.cut(1, 1, 12), 0);
        Due.dueSum(yard, "after all cuts", 12, 0, 0, 4);
        yard = Due.open("d0;u1;p0 40;");
        Due.due("cut of 40", yard.cut(0, 0, 40), 0);
    }

    private static void cutRefusals() {
        WhateverYard yard = Due.open(SHOP);
        Due.due("cut(3, 0, 1)", yard.cut(3, 0, 1), Due.UNKNOWN);
        Due.due("cut(-1, 0, 1)", yard.cut(-1, 0, 1), Due.UNKNOWN);
        Due.due("cut(0, 4, 1)", yard.cut(0, 4, 1), Due.UNKNOWN);
        Due.due("cut(0, -1, 1)", yard.cut(0, -1, 1), Due.UNKNOWN);
        Due.due("cut(3, 0, 0)", yard.cut(3, 0, 0), Due.UNKNOWN);
        Due.due("cut(0, 4, 41)", yard.cut(0, 4, 41), Due.UNKNOWN);
        Due.due("cut(0, 0, 0)", yard.cut(0, 0, 0), Due.OUTSIDE);
        Due.due("cut(0, 0, -1)", yard.cut(0, 0, -1), Due.OUTSIDE);
        Due.due("cut(0, 0, 41), too long too", yard.cut(0, 0, 41), Due.OUTSIDE);
        Due.due("cut(0, 0, 40)", yard.cut(0, 0, 40), Due.NOT);
        Due.due("cut(0, 0, 11)", yard.cut(0, 0, 11), Due.NOT);
        Due.due("cut(2, 0, 6), short of 36 inches", yard.cut(2, 0, 6), Due.NOT);
        Due.due("cut(0, 0, 2000000000)", yard.cut(0, 0, 2000000000), Due.OUTSIDE);
        Due.dueSum(yard, "after refused cuts", 780, 0, 0, 0);
    }

    private static void turns() {
        WhateverYard yard = Due.open(SHOP);
        // 10 yards are 15, dues 1, 14 of 20 inches.
        Due.due("turn(0, 0)", yard.turn(0, 0), 280);
        Due.due("declared", yard.piece(0, 1), 1);
        Due.due("whole yards", yard.piece(0, 2), 14);
        Due.dueSum(yard, "after a turn", 280 + 240 + 180, 0, 80, 1);
        // 14 yards are 4, no dues yet, 4 of 45 inches.
        Due.due("turn(0, 1)", yard.turn(0, 1), 180);
        Due.dueSum(yard, "after two", 180 + 240 + 180, 0, 180, 2);
        // 4 yards are 8, no dues, 8 of 36 inches: longer, so nothing is wasted.
        Due.due("turn(0, 2)", yard.turn(0, 2), 288);
        Due.dueSum(yard, "after three", 288 + 240 + 180, 0, 180, 3);
        Due.due("turn(0, 3)", yard.turn(0, 3), 288);
        Due.dueSum(yard, "after four", 288 + 240 + 180, 0, 180, 4);
        // What is over a whole yard is lost: 179 inches are 3 yards of 45.
        yard = Due.open("d50;u45;u10;u1;t0 1 2 3;p0 4;");
        yard.cut(0, 2, 1);
        // 3 yards are 4, dues 2, 2 of 10 inches.
        Due.due("turn of 179 inches", yard.turn(0, 0), 20);
        Due.due("its waste", yard.told(7), 159);
        yard = Due.open("d99;u9;u10;t0 1 20 1;t1 0 1 1;p0 19;p0 20;");
        Due.due("turn into no yard", yard.turn(0, 0), 0);
        Due.due("turn into one yard, too few for dues", yard.turn(1, 0), 10);
        Due.due("waste of both", yard.told(7), 171 + 170);
        Due.due("turn of nothing", yard.turn(0, 1), 0);
        Due.due("waste of nothing", yard.told(7), 341);
        Due.due("declared for the first again", yard.piece(0, 1), 0);
    }

    private static void turnRefusals() {
        WhateverYard yard = Due.open(SHOP);
        Due.due("turn(3, 0)", yard.turn(3, 0), Due.UNKNOWN);
        Due.due("turn(-1, 0)", yard.turn(-1, 0), Due.UNKNOWN);
        Due.due("turn(0, 4)", yard.turn(0, 4), Due.UNKNOWN);
        Due.due("turn(0, -1)", yard.turn(0, -1), Due.UNKNOWN);
        Due.due("turn(0, 1)", yard.turn(0, 1), Due.NOT);
        Due.due("turn(0, 2), to its own use", yard.turn(0, 2), Due.NOT);
        Due.due("turn(1, 0)", yard.turn(1, 0), Due.NOT);
        Due.dueSum(yard, "after refused turns", 780, 0, 0, 0);
    }

    private static void turnLimits() {
        WhateverYard yard = Due.open(WASTEFUL);
        Due.due("turn to the longest", yard.turn(0, 0), 9999);
        Due.due("nothing wasted yet", yard.told(7), 0);
        Due.due("and back", yard.turn(0, 1), 2020);
        Due.due("waste", yard.told(7), 7979);
        for (int pair = 1; pair < 125; pair++) {
            yard.turn(0, 0);
            yard.turn(0, 1);
        }
        Due.due("waste of 125 pairs", yard.told(7), 125 * 7979);
        yard.turn(0, 0);
        Due.due("waste is not wasted by a longer one", yard.told(7), 125 * 7979);
        yard.turn(0, 1);
        Due.due("waste is counted to its end", yard.told(7), 999999);
        yard.turn(0, 0);
        yard.turn(0, 1);
        Due.due("and no further", yard.told(7), 999999);
    }

    private static void changes() {
        WhateverYard yard = Due.open(SHOP);
        Due.due("change to a shorter yard", yard.change(0, 1), (18 - 10) * 10);
        Due.due("declared", yard.piece(0, 1), 1);
        Due.dueSum(yard, "after a change", 780, 80, 0, 1);
        Due.due("change to a longer yard", yard.change(0, 2), 80);
        Due.due("change to a yard a little shorter", yard.change(0, 3), 80 + (10 - 8) * 10);
        Due.due("change to a yard as long", yard.change(0, 0), 100);
        Due.due("declared", yard.piece(0, 1), 0);
        Due.dueSum(yard, "after four changes", 780, 100, 0, 4);
        yard = Due.open("d99;u2;u3;p0 1;p1 1;");
        Due.due("change to a shorter yard, as many yards", yard.change(1, 0), 0);
        Due.due("change of one yard to none", yard.change(0, 1), 0);
        Due.due("change of none to one", yard.change(0, 0), 99);
    }

    private static void changeRefusals() {
        WhateverYard yard = Due.open(SHOP);
        Due.due("change(3, 0)", yard.change(3, 0), Due.UNKNOWN);
        Due.due("change(-1, 0)", yard.change(-1, 0), Due.UNKNOWN);
        Due.due("change(0, 4)", yard.change(0, 4), Due.UNKNOWN);
        Due.due("change(0, -1)", yard.change(0, -1), Due.UNKNOWN);
        Due.due("change(0, 0)", yard.change(0, 0), Due.NOT);
        Due.due("change(2, 2)", yard.change(2, 2), Due.NOT);
        Due.dueSum(yard, "after refused changes", 780, 0, 0, 0);
    }

    private static void paidLimit() {
        WhateverYard yard = Due.open("d99;u99;u1;p0 40;");
        Due.due("first", yard.change(0, 1), 388080);
        yard.change(0, 0);
        Due.due("second", yard.change(0, 1), 776160);
        yard.change(0, 0);
        Due.due("third", yard.change(0, 1), 999999);
        yard.change(0, 0);
        Due.due("fourth", yard.change(0, 1), 999999);
        Due.due("PAID", yard.told(6), 999999);
        yard.undo();
        yard.undo();
        yard.undo();
        Due.due("PAID undone", yard.told(6), 776160);
    }

    private static void drifts() {
        // One piece, one table: two draws a day, and every day both fall on them.
        WhateverYard yard = Due.open("d0;u36;u20;t0 1 1 1;p0 10;");
        Due.due("drift(1)", yard.drift(1), 160);
        Due.dueSum(yard, "after a day", 200, 0, 160, 1);
        Due.due("declared", yard.piece(0, 1), 1);
        Due.due("a day of nothing to turn", yard.drift(40), 160);
        Due.dueSum(yard, "after it", 200, 0, 160, 2);
        long seed = 0;
        for (int draws = 0; draws < 82; draws++) seed = (seed * 1103515245L + 12345L) % 2147483648L;
        Due.due("two draws a day", yard.seed(0), seed);
        // From 0 on the draws of 2 are 0 (12345 / 65536), of 3 are 1 (1406932606 / 65536 = 21468).
        yard = Due.open("d0;u10;u5;t0 1 1 1;p0 9;p0 8;");
        Due.due("the first draw is of pieces", yard.drift(1), 45);
        Due.due("piece 0 is turned", yard.piece(0, 1), 1);
        Due.due("piece 1 is not", yard.piece(1, 1), 0);
        yard = Due.open("d0;u10;u5;t1 0 1 1;t0 1 1 1;p0 9;");
        Due.due("the second draw is of tables", yard.drift(1), 0);
        Due.due("the seed after it", yard.seed(0), 1406932606L);
    }

    private static void driftRefusals() {
        WhateverYard yard = new WhateverYard();
        Due.due("no shop: drift(0)", yard.drift(0), Due.OUTSIDE);
        Due.due("no shop: drift(41)", yard.drift(41), Due.OUTSIDE);
        Due.due("no shop: drift(40)", yard.drift(40), Due.NOT);
        Due.due("no shop: nothing to undo", yard.told(11), 0);
        yard = Due.open(SHOP);
        Due.due("drift(0)", yard.drift(0), Due.OUTSIDE);
        Due.due("drift(-1)", yard.drift(-1), Due.OUTSIDE);
        Due.due("drift(41)", yard.drift(41), Due.OUTSIDE);
        Due.dueSum(yard, "after refused drifts", 780, 0, 0, 0);
        Due.due("the seed", yard.seed(0), 0);
    }

    private static void driftWithoutDraws() {
        WhateverYard yard = Due.open("d0;u36;u20;p0 10;");
        Due.due("drift without tables", yard.drift(3), 0);
        Due.due("can be undone", yard.told(11), 1);
        Due.due("no draws without tables", yard.seed(0), 0);
        yard = Due.open("d0;u36;u20;t0 1 1 1;");
        Due.due("drift without pieces", yard.drift(3), 0);
        Due.due("no draws without pieces", yard.seed(0), 0);
        yard = Due.open("d0;");
        Due.due("drift of a shop of nothing", yard.drift(40), 0);
        Due.due("undo() of it", yard.undo(), 0);
    }

    private static void driftWhenWasteful() {
        WhateverYard yard = Due.open(WASTEFUL);
        for (int pair = 0; pair < 11; pair++) {
            yard.turn(0, 0);
            yard.turn(0, 1);
        }
        Due.due("23 yards of 97 are one of 1", yard.turn(1, 2), 1);
        Due.due("one inch is nothing", yard.turn(2, 3), 0);
        Due.due("waste", yard.told(7), 90000);
        int wasted = yard.drift(40);
        Due.due("drift at 90000 is not refused", wasted >= 90000 ? 1 : 0, 1);
        yard.undo();
        Due.due("one inch more is nothing", yard.turn(1, 3), 0);
        Due.due("waste", yard.told(7), 90001);
        int seed = yard.seed(0);
        yard.seed(seed);
        Due.due("drift above 90000", yard.drift(1), Due.FULL);
        Due.due("drift(0) above 90000", yard.drift(0), Due.OUTSIDE);
        Due.due("no draws", yard.seed(seed), seed);
        Due.due("undo() of the turn", yard.undo(), 19);
        Due.due("waste", yard.told(7), 90000);
    }

    private static void undone() {
        WhateverYard yard = Due.open(SHOP);
        Due.due("undo() of nothing", yard.undo(), Due.NOT);
        yard.cut(0, 0, 1);
        yard.turn(0, 0);
        yard.change(1, 0);
        yard.change(1, 1);
        yard.seed(3);
        yard.drift(40);
        int seed = yard.seed(9);
        yard.seed(seed);
        Due.due("undo() of a drift", yard.undo(), 4);
        // 9 yards are 13, dues 1, 12 of 20 inches: 84 wasted. Then 12 yards are 6, 6 are 12 again: 60 paid.
        Due.dueSum(yard, "drift undone", 240 + 240 + 180, 60, 84, 4);
        Due.due("the seed stays", yard.seed(seed), seed);
        Due.due("piece(0, 1)", yard.piece(0, 1), 1);
        Due.due("piece(1, 1)", yard.piece(1, 1), 1);
        Due.due("undo() of a change", yard.undo(), 3);
        Due.dueSum(yard, "change undone", 660, 0, 84, 3);
        Due.due("piece(1, 1)", yard.piece(1, 1), 0);
        Due.due("undo() of another", yard.undo(), 2);
        Due.due("piece(1, 1)", yard.piece(1, 1), 1);
        Due.due("undo() of a turn", yard.undo(), 1);
        Due.dueSum(yard, "turn undone", 324 + 240 + 180, 0, 0, 1);
        Due.due("piece(0, 1)", yard.piece(0, 1), 0);
        Due.due("undo() of a cut", yard.undo(), 0);
        Due.dueSum(yard, "cut undone", 780, 0, 0, 0);
        Due.due("undo() of nothing more", yard.undo(), Due.NOT);
    }

    private static void twentyUndone() {
        WhateverYard yard = Due.open("d0;u1;u2;p0 40;p1 40;");
        for (int i = 1; i <= 20; i++) yard.cut(0, 0, 1);
        Due.due("twenty", yard.told(11), 20);
        for (int i = 1; i <= 13; i++) yard.cut(0, 0, 1);
        Due.due("no more than twenty", yard.told(11), 20);
        Due.due("refused", yard.cut(0, 0, 20), Due.NOT);
        for (int i = 19; i >= 0; i--) {
            Due.due("undo()", yard.undo(), i);
            Due.due("piece(0, 0)", yard.piece(0, 0), 40 - 13 - i);
        }
        Due.due("the oldest are lost", yard.undo(), Due.NOT);
        Due.due("piece(0, 0)", yard.piece(0, 0), 27);
        Due.due("cut again", yard.cut(1, 1, 1), 78);
        Due.due("undo() of it", yard.undo(), 0);
        Due.due("piece(1, 0)", yard.piece(1, 0), 80);
    }
}
