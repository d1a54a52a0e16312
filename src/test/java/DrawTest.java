/** Promises 31 to 33: the seed and the images. */
public final class DrawTest {
    private static final String SHOP = "d10;u36;u20;u45;u36;t0 1 2 3;t1 2 3 1;t2 0 1 2;t0 3 1 1;t3 1 2 3;p0 10;p1 12;p2 4;";

    public static void main(String[] args) {
        seeds();
        images();
        imagesWithoutShop();
        refusals();
        Due.end();
    }

    private static void seeds() {
        WhateverYard yard = new WhateverYard();
        Due.due("seed(5)", yard.seed(5), 0);
        Due.due("seed(-1)", yard.seed(-1), Due.OUTSIDE);
        Due.due("seed(the least)", yard.seed(-2147483648), Due.OUTSIDE);
        Due.due("seed(the most)", yard.seed(2147483647), 5);
        Due.due("seed(0)", yard.seed(0), 2147483647);
        yard = Due.open(SHOP);
        yard.seed(2147483647);
        yard.drift(1);
        Due.due("two draws of the most", yard.seed(0), next(next(2147483647L)));
        yard = Due.open(SHOP);
        yard.seed(5);
        Due.due("drift(9) from 5", yard.drift(9), 148);
        Due.due("piece(0, 0)", yard.piece(0, 0), 280);
        Due.due("piece(1, 1)", yard.piece(1, 1), 1);
        Due.due("eighteen draws", yard.seed(0), 64601211);
    }

    private static long next(long seed) {
        return (seed * 1103515245L + 12345L) % 2147483648L;
    }

    private static void images() {
        WhateverYard yard = Due.open(SHOP);
        yard.seed(7);
        yard.turn(0, 0);
        yard.change(1, 2);
        yard.change(1, 1);
        Due.due("keep(0)", yard.keep(0), 1);
        Due.due("nothing can be undone", yard.undo(), Due.NOT);
        // 10 yards are 14 of 20 inches with dues: 80 wasted; 5 yards of 45 are 12 of 20: 70 paid.
        Due.dueSum(yard, "kept", 280 + 240 + 180, 70, 80, 0);
        yard.cut(0, 1, 1);
        yard.change(2, 0);
        yard.seed(8);
        yard.left(1, 2, 3);
        yard.write(0, 5);
        Due.due("keep(1)", yard.keep(1), 1);
        yard.cut(1, 1, 1);
        yard.turn(0, 1);
        yard.seed(9);
        Due.due("goBack(0)", yard.goBack(0), 1);
        Due.dueSum(yard, "image 0", 280 + 240 + 180, 70, 80, 0);
        Due.due("undo() of nothing", yard.undo(), Due.NOT);
        Due.due("piece(0, 1)", yard.piece(0, 1), 1);
        Due.due("piece(2, 1)", yard.piece(2, 1), 2);
        Due.due("told(9) stays", yard.told(9), 1);
        Due.due("told(10) stays", yard.told(10), 1);
        Due.due("its seed", yard.seed(1), 7);
        Due.due("goBack(1)", yard.goBack(1), 1);
        // 4 yards of 45 are 5 of 36: 10 paid.
        Due.dueSum(yard, "image 1", 260 + 240 + 180, 80, 80, 0);
        Due.due("piece(2, 1)", yard.piece(2, 1), 0);
        Due.due("its seed", yard.seed(1), 8);
        Due.due("goBack(0) again", yard.goBack(0), 1);
        Due.due("its seed again", yard.seed(1), 7);
        yard.cut(0, 1, 2);
        Due.due("kept over", yard.keep(0), 1);
        yard.cut(0, 1, 2);
        yard.goBack(0);
        Due.due("what was kept last", yard.piece(0, 0), 240);
        Due.due("its seed", yard.seed(1), 1);
    }

    private static void imagesWithoutShop() {
        WhateverYard yard = new WhateverYard();
        yard.seed(3);
        Due.due("keep(1)", yard.keep(1), 1);
        yard.seed(4);
        Due.due("goBack(0)", yard.goBack(0), Due.NOT);
        Due.due("goBack(1)", yard.goBack(1), 1);
        Due.due("its seed", yard.seed(0), 3);
    }

    private static void refusals() {
        WhateverYard yard = Due.open(SHOP);
        yard.cut(0, 0, 1);
        Due.due("keep(2)", yard.keep(2), Due.UNKNOWN);
        Due.due("keep(-1)", yard.keep(-1), Due.UNKNOWN);
        Due.due("goBack(2)", yard.goBack(2), Due.UNKNOWN);
        Due.due("goBack(-1)", yard.goBack(-1), Due.UNKNOWN);
        Due.due("goBack(0)", yard.goBack(0), Due.NOT);
        Due.due("goBack(1)", yard.goBack(1), Due.NOT);
        Due.dueSum(yard, "after refusals", 780 - 36, 0, 0, 1);
        yard.keep(1);
        Due.due("goBack(0), not kept", yard.goBack(0), Due.NOT);
        Due.due("goBack(33)", yard.goBack(33), Due.UNKNOWN);
    }
}
