/** Part 3 from LEFT to the IMAGES, sentence by sentence: how many are told, written and kept, and what each of them keeps. */
public final class LeftEdgesTest {
    private static final String SHOP = "d10;u36;u20;t0 1 2 3;t1 0 3 2;p0 10;p1 12;";

    public static void main(String[] args) {
        leftBounds();
        sixLeft();
        boughtForNothingTold();
        boughtForToTheInch();
        askTheLeast();
        askNobody();
        bookBounds();
        fifteenEntries();
        wrongIsTheFirst();
        tornAway();
        seedBounds();
        seedLeftOver();
        drawsByHand();
        twoImages();
        imagesKeep();
        bothImagesKeepAll();
        imagesDoNotKeep();
        nothingToUndoByImages();
        Due.end();
    }

    /** "n YARDS (1 .. 40), cut c inches (0 .. 999) off, has l inches (0 .. 9999)." */
    private static void leftBounds() {
        int[][] in = {{1, 0, 0}, {40, 0, 0}, {1, 999, 0}, {1, 0, 9999}, {40, 999, 9999}};
        int[][] out = {{0, 0, 0}, {41, 0, 0}, {1, -1, 0}, {1, 1000, 0}, {1, 0, -1}, {1, 0, 10000}};
        for (WhateverYard yard : new WhateverYard[] {new WhateverYard(), Due.open(SHOP)}) {
            for (int[] one : out) Due.due("left beyond its bounds", yard.left(one[0], one[1], one[2]), Due.OUTSIDE);
            Due.due("nothing is told by these", yard.told(9), 0);
            for (int i = 0; i < 5; i++) Due.due("left within its bounds", yard.left(in[i][0], in[i][1], in[i][2]), i + 1);
            Due.due("told(9)", yard.told(9), 5);
        }
    }

    /** "LEFT (6 at most)." */
    private static void sixLeft() {
        WhateverYard yard = Due.open(SHOP);
        Due.due("none", yard.told(9), 0);
        for (int i = 1; i <= 6; i++) {
            Due.due("left", yard.left(1, 0, 36), i);
            Due.due("told(9)", yard.told(9), i);
        }
        Due.due("a seventh", yard.left(1, 0, 20), Due.FULL);
        Due.due("told(9)", yard.told(9), 6);
        Due.due("the seventh was not told", yard.boughtFor(), 1);
        yard.tear();
        for (int i = 1; i <= 5; i++) yard.left(1, 0, 36);
        Due.due("a sixth", yard.left(1, 0, 20), 6);
        Due.due("the sixth was told", yard.boughtFor(), 0);
    }

    /** "With nothing told LEFT all USES." */
    private static void boughtForNothingTold() {
        Due.due("no shop", new WhateverYard().boughtFor(), 0);
        Due.due("no uses", Due.open("d0;").boughtFor(), 0);
        Due.due("one use", Due.open("d0;u5;").boughtFor(), 1);
        Due.due("six uses", Due.open("d0;u5;u5;u6;u7;u8;u9;").boughtFor(), 63);
        WhateverYard yard = new WhateverYard();
        yard.left(1, 0, 5);
        Due.due("no shop, something told", yard.boughtFor(), 0);
    }

    /** "By which all that is told LEFT is so, of one USE alone." */
    private static void boughtForToTheInch() {
        WhateverYard yard = Due.open("d0;u7;u8;u9;u7;u99;");
        int[][] told = {{1, 0, 7}, {1, 0, 8}, {10, 9, 81}, {10, 9, 61}, {10, 71, 0}, {10, 70, 0}, {10, 71, 1}, {40, 999, 2961}, {40, 0, 3960},
            {1, 99, 0}, {1, 100, 0}, {2, 0, 15}};
        int[] due = {9, 2, 4, 9, 0, 9, 0, 16, 16, 16, 0, 0};
        for (int i = 0; i < told.length; i++) {
            yard.tear();
            yard.left(told[i][0], told[i][1], told[i][2]);
            Due.due("boughtFor() of the told " + i, yard.boughtFor(), due[i]);
        }
        yard.tear();
        yard.left(2, 5, 9);
        yard.left(3, 0, 21);
        Due.due("both by the same", yard.boughtFor(), 9);
        yard.left(3, 0, 24);
        Due.due("one by another", yard.boughtFor(), 0);
    }

    /** "The least n (1 .. 40) by which n YARDS of these would be unlike, any two." */
    private static void askTheLeast() {
        Due.due("two unlike", Due.open("d0;u1;u2;").ask(), 1);
        Due.due("six unlike", Due.open("d0;u1;u2;u4;u8;u16;u32;").ask(), 1);
        Due.due("two alike of six", Due.open("d0;u1;u2;u4;u8;u16;u2;").ask(), Due.NONE);
        WhateverYard yard = Due.open("d0;u7;u8;u7;u9;");
        Due.due("two alike of four", yard.ask(), Due.NONE);
        yard.left(1, 0, 7);
        Due.due("two alike of two", yard.ask(), Due.NONE);
    }

    /** "NONE: there is none (two are alike), fewer than two are." */
    private static void askNobody() {
        Due.due("no shop", new WhateverYard().ask(), Due.NONE);
        Due.due("no uses", Due.open("d0;").ask(), Due.NONE);
        Due.due("one use", Due.open("d0;u9;").ask(), Due.NONE);
        WhateverYard yard = Due.open("d0;u7;u8;u8;");
        yard.left(2, 0, 14);
        Due.due("one is left", yard.ask(), Due.NONE);
        yard.left(2, 0, 15);
        Due.due("none is left", yard.ask(), Due.NONE);
    }

    /** "An entry behind THE BOOK (0 .. 9999)." */
    private static void bookBounds() {
        WhateverYard yard = Due.open(SHOP);
        Due.due("write(0, -1)", yard.write(0, -1), Due.OUTSIDE);
        Due.due("write(0, 10000)", yard.write(0, 10000), Due.OUTSIDE);
        Due.due("write(-1, 0)", yard.write(-1, 0), Due.UNKNOWN);
        Due.due("write(2, 0)", yard.write(2, 0), Due.UNKNOWN);
        Due.due("told(10)", yard.told(10), 0);
        Due.due("write(1, 0)", yard.write(1, 0), 1);
        Due.due("write(1, 9999)", yard.write(1, 9999), 2);
        Due.due("write(0, 360)", yard.write(0, 360), 3);
        Due.due("no shop: write(0, 0)", new WhateverYard().write(0, 0), Due.UNKNOWN);
    }

    /** "THE BOOK (15 at most)." */
    private static void fifteenEntries() {
        WhateverYard yard = Due.open(SHOP);
        for (int i = 1; i <= 14; i++) Due.due("write(0, 360)", yard.write(0, 360), i);
        Due.due("the fifteenth", yard.write(1, 241), 15);
        Due.due("told(10)", yard.told(10), 15);
        Due.due("the fifteenth is wrong", yard.judge(), 14);
        Due.due("a sixteenth", yard.write(0, 1), Due.FULL);
        Due.due("told(10)", yard.told(10), 15);
        Due.due("the fifteenth is wrong still", yard.judge(), 14);
        Due.due("tear()", yard.tear(), 15);
        Due.due("write() again", yard.write(0, 360), 1);
    }

    /** "WRONG: the first (its number among them) that is otherwise now; NONE." */
    private static void wrongIsTheFirst() {
        WhateverYard yard = Due.open(SHOP);
        Due.due("no book", yard.judge(), Due.NONE);
        yard.write(0, 360);
        yard.write(1, 240);
        Due.due("all as it is", yard.judge(), Due.NONE);
        yard.write(1, 239);
        yard.write(0, 361);
        Due.due("an inch less is written", yard.judge(), 2);
        yard.cut(1, 1, 1);
        Due.due("otherwise now", yard.judge(), 1);
        yard.turn(0, 0);
        Due.due("turned", yard.judge(), 0);
        yard.undo();
        yard.undo();
        Due.due("undone", yard.judge(), 2);
        yard.change(0, 1);
        Due.due("the use is no matter", yard.judge(), 2);
        yard.tear();
        Due.due("torn", yard.judge(), Due.NONE);
    }

    /** "Nothing is told LEFT, THE BOOK is empty: how much both had." */
    private static void tornAway() {
        for (int left = 0; left <= 6; left += 3) {
            for (int entries = 0; entries <= 15; entries += 5) {
                WhateverYard yard = Due.open(SHOP);
                for (int i = 0; i < left; i++) yard.left(1, 0, 0);
                for (int i = 0; i < entries; i++) yard.write(0, 0);
                yard.cut(0, 0, 1);
                Due.due("tear() of " + left + " and " + entries, yard.tear(), left + entries);
                Due.due("told(9)", yard.told(9), 0);
                Due.due("told(10)", yard.told(10), 0);
                Due.due("boughtFor()", yard.boughtFor(), 3);
                Due.due("judge()", yard.judge(), Due.NONE);
                Due.due("tear() again", yard.tear(), 0);
                Due.dueSum(yard, "all else is as it was", 324 + 240, 0, 0, 1);
            }
        }
    }

    /** "THE SEED becomes v (0 .. 2147483647): what it was", "0 at first". */
    private static void seedBounds() {
        WhateverYard yard = new WhateverYard();
        Due.due("at first", yard.seed(2147483647), 0);
        Due.due("seed(-1)", yard.seed(-1), Due.OUTSIDE);
        Due.due("seed(-2147483648)", yard.seed(-2147483648), Due.OUTSIDE);
        Due.due("the most", yard.seed(0), 2147483647);
        Due.due("the least", yard.seed(1), 0);
        Due.due("one", yard.seed(1), 1);
    }

    /** "It becomes it times 1103515245 and 12345, left over by 2 to the 31." */
    private static void seedLeftOver() {
        int[][] due = {{0, 1406932606}, {1, 377401575}, {2147483647, 288979989}};
        for (int[] one : due) {
            WhateverYard yard = Due.open("d0;u9;u9;t0 1 1 1;p0 1;");
            yard.seed(one[0]);
            yard.drift(1);
            Due.due("two draws from " + one[0], yard.seed(0), one[1]);
        }
    }

    /** "The DRAW of n is it / 65536, left over by n": first of PIECES, then of TABLES. */
    private static void drawsByHand() {
        for (int start = 0; start < 40; start++) {
            WhateverYard yard = Due.open("d0;u9;u9;u9;t0 1 1 1;t0 2 1 1;t1 0 1 1;p0 1;p0 1;p0 1;p0 1;p0 1;");
            yard.seed(start * 53687091);
            long seed = (start * 53687091 * 1103515245L + 12345L) % 2147483648L;
            int piece = (int) (seed / 65536 % 5);
            seed = (seed * 1103515245L + 12345L) % 2147483648L;
            int table = (int) (seed / 65536 % 3);
            yard.drift(1);
            for (int p = 0; p < 5; p++) {
                int use = p != piece || table == 2 ? 0 : table + 1;
                Due.due("from " + start + ": piece(" + p + ", 1)", yard.piece(p, 1), use);
            }
        }
    }

    /** "IMAGES 0, 1": each by itself, and "NOT: it was not kept". */
    private static void twoImages() {
        WhateverYard yard = Due.open(SHOP);
        for (int i : new int[] {-1, 2}) {
            Due.due("keep(" + i + ")", yard.keep(i), Due.UNKNOWN);
            Due.due("goBack(" + i + ")", yard.goBack(i), Due.UNKNOWN);
        }
        Due.due("goBack(0), none kept", yard.goBack(0), Due.NOT);
        Due.due("goBack(1), none kept", yard.goBack(1), Due.NOT);
        Due.due("keep(0)", yard.keep(0), 1);
        Due.due("goBack(1), 0 kept", yard.goBack(1), Due.NOT);
        yard.cut(0, 0, 1);
        Due.due("keep(1)", yard.keep(1), 1);
        yard.cut(0, 0, 1);
        Due.due("goBack(0)", yard.goBack(0), 1);
        Due.due("image 0", yard.piece(0, 0), 360);
        Due.due("goBack(1)", yard.goBack(1), 1);
        Due.due("image 1", yard.piece(0, 0), 324);
        Due.due("goBack(1) again", yard.goBack(1), 1);
        Due.due("keep(0) over the other", yard.keep(0), 1);
        yard.cut(0, 0, 1);
        Due.due("goBack(0)", yard.goBack(0), 1);
        Due.due("image 0, kept over", yard.piece(0, 0), 324);
        yard = Due.open(SHOP);
        yard.keep(1);
        Due.due("goBack(0), 1 kept", yard.goBack(0), Due.NOT);
    }

    /** "LENGTHS, USES of PIECES, PAID, WASTE, THE SEED." */
    private static void imagesKeep() {
        WhateverYard yard = Due.open(SHOP);
        yard.seed(11);
        yard.turn(0, 0);
        yard.change(1, 0);
        yard.change(1, 1);
        Due.due("PAID ahead", yard.told(6), 60);
        Due.due("WASTE ahead", yard.told(7), 80);
        yard.keep(0);
        yard.turn(0, 1);
        yard.change(0, 1);
        yard.change(1, 0);
        yard.cut(1, 0, 2);
        yard.seed(12);
        Due.due("goBack(0)", yard.goBack(0), 1);
        Due.dueSum(yard, "as kept", 280 + 240, 60, 80, 0);
        int[][] due = {{280, 1}, {240, 1}};
        for (int p = 0; p < 2; p++) {
            for (int what = 0; what < 2; what++) Due.due("piece(" + p + ", " + what + ")", yard.piece(p, what), due[p][what]);
        }
        Due.due("the seed", yard.seed(0), 11);
        yard.goBack(0);
        Due.due("the seed again", yard.seed(0), 11);
    }

    /** Six PIECES, PAID, WASTE and THE SEED of both IMAGES, and nothing of the one in the other. */
    private static void bothImagesKeepAll() {
        WhateverYard yard = Due.open("d10;u36;u20;t0 1 1 1;p0 1;p0 2;p0 3;p0 4;p0 5;p0 6;");
        for (int p = 0; p < 6; p++) yard.turn(p, 0);
        yard.seed(2147483647);
        yard.keep(0);
        for (int p = 0; p < 6; p++) yard.change(p, 0);
        for (int p = 0; p < 6; p += 2) yard.change(p, 1);
        yard.seed(1);
        yard.keep(1);
        for (int p = 0; p < 6; p++) yard.cut(p, 1, 1);
        for (int again = 0; again < 2; again++) {
            Due.due("goBack(0)", yard.goBack(0), 1);
            Due.dueSum(yard, "image 0", 420, 0, 336, 0);
            for (int p = 0; p < 6; p++) Due.due("image 0: piece(" + p + ", 0)", yard.piece(p, 0), 20 * p + 20);
            for (int p = 0; p < 6; p++) Due.due("image 0: piece(" + p + ", 1)", yard.piece(p, 1), 1);
            Due.due("image 0: the seed", yard.seed(5), 2147483647);
            Due.due("goBack(1)", yard.goBack(1), 1);
            // 1 less 0, 3 less 1, 5 less 2 yards.
            Due.dueSum(yard, "image 1", 420, 60, 336, 0);
            for (int p = 0; p < 6; p++) Due.due("image 1: piece(" + p + ", 0)", yard.piece(p, 0), 20 * p + 20);
            for (int p = 0; p < 6; p++) Due.due("image 1: piece(" + p + ", 1)", yard.piece(p, 1), 1 - p % 2);
            Due.due("image 1: the seed", yard.seed(5), 1);
        }
    }

    /** LEFT, THE BOOK and THE TEXT are not among what an IMAGE keeps. */
    private static void imagesDoNotKeep() {
        WhateverYard yard = Due.open(SHOP);
        yard.left(1, 0, 20);
        yard.write(0, 360);
        yard.keep(0);
        yard.left(1, 0, 36);
        yard.write(0, 1);
        yard.feed('d');
        yard.goBack(0);
        Due.due("told(9)", yard.told(9), 2);
        Due.due("told(10)", yard.told(10), 2);
        Due.due("told(5)", yard.told(5), 1);
        Due.due("boughtFor()", yard.boughtFor(), 0);
        Due.due("judge()", yard.judge(), 1);
    }

    /** "(nothing can be undone then)", of both calls. */
    private static void nothingToUndoByImages() {
        WhateverYard yard = Due.open(SHOP);
        for (int i = 0; i < 2; i++) {
            yard.cut(0, 0, 1);
            yard.cut(0, 0, 1);
            Due.due("two can be undone", yard.told(11), 2);
            yard.keep(i);
            Due.due("none behind keep(" + i + ")", yard.told(11), 0);
            Due.due("undo() behind keep(" + i + ")", yard.undo(), Due.NOT);
        }
        for (int i = 0; i < 2; i++) {
            yard.cut(1, 1, 1);
            yard.goBack(i);
            Due.due("none behind goBack(" + i + ")", yard.told(11), 0);
            Due.due("undo() behind goBack(" + i + ")", yard.undo(), Due.NOT);
            Due.due("LENGTH", yard.piece(0, 0), 288 - 72 * i);
            yard.cut(0, 0, 1);
            Due.due("undo() of what comes then", yard.undo(), 0);
            Due.due("LENGTH", yard.piece(0, 0), 288 - 72 * i);
        }
    }
}
