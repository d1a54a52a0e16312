/** Promises 25 to 30: what was left, what was bought, the book and its judge. */
public final class LeftTest {
    private static final String SHOP = "d10;u36;u20;u45;u36;p0 10;p1 12;p2 4;";

    public static void main(String[] args) {
        told();
        refusals();
        boughtFor();
        asking();
        writing();
        writeRefusals();
        tearing();
        judging();
        Due.end();
    }

    private static void told() {
        WhateverYard yard = new WhateverYard();
        for (int i = 1; i <= 6; i++) {
            Due.due("left() without a shop", yard.left(i, i, i), i);
            Due.due("told(9)", yard.told(9), i);
        }
        Due.due("a seventh", yard.left(1, 1, 1), Due.FULL);
        Due.due("a seventh out of bounds", yard.left(41, 1, 1), Due.OUTSIDE);
        Due.due("told(9)", yard.told(9), 6);
        yard.tear();
        Due.due("left(1, 0, 0)", yard.left(1, 0, 0), 1);
        Due.due("left(40, 999, 9999)", yard.left(40, 999, 9999), 2);
    }

    private static void refusals() {
        WhateverYard yard = Due.open(SHOP);
        Due.due("left(0, 0, 0)", yard.left(0, 0, 0), Due.OUTSIDE);
        Due.due("left(-1, 0, 0)", yard.left(-1, 0, 0), Due.OUTSIDE);
        Due.due("left(41, 0, 0)", yard.left(41, 0, 0), Due.OUTSIDE);
        Due.due("left(1, -1, 0)", yard.left(1, -1, 0), Due.OUTSIDE);
        Due.due("left(1, 1000, 0)", yard.left(1, 1000, 0), Due.OUTSIDE);
        Due.due("left(1, 0, -1)", yard.left(1, 0, -1), Due.OUTSIDE);
        Due.due("left(1, 0, 10000)", yard.left(1, 0, 10000), Due.OUTSIDE);
        Due.due("told(9)", yard.told(9), 0);
        Due.due("boughtFor()", yard.boughtFor(), 15);
    }

    private static void boughtFor() {
        WhateverYard yard = Due.open(SHOP);
        Due.due("nothing told", yard.boughtFor(), 15);
        yard.left(5, 10, 170);
        Due.due("180 inches bought", yard.boughtFor(), 9);
        yard.left(4, 0, 144);
        Due.due("144 too", yard.boughtFor(), 9);
        yard.left(1, 0, 20);
        Due.due("no use for all of it", yard.boughtFor(), 0);
        yard.tear();
        yard.left(2, 40, 0);
        Due.due("all cut off", yard.boughtFor(), 2);
        yard.tear();
        yard.left(2, 41, 0);
        Due.due("more cut off than was", yard.boughtFor(), 0);
        yard.tear();
        yard.left(2, 2, 88);
        Due.due("90 inches", yard.boughtFor(), 4);
        yard.left(1, 0, 36);
        Due.due("only the second fits another", yard.boughtFor(), 0);
        yard = Due.open("d0;");
        Due.due("no uses", yard.boughtFor(), 0);
        yard = Due.open("d0;u99;u1;u2;u3;u4;u5;");
        yard.left(40, 0, 3960);
        Due.due("the longest", yard.boughtFor(), 1);
        yard.tear();
        yard.left(1, 0, 5);
        Due.due("the last use", yard.boughtFor(), 32);
    }

    private static void asking() {
        Due.due("no uses", Due.open("d0;").ask(), Due.NONE);
        Due.due("one use", Due.open("d0;u5;").ask(), Due.NONE);
        Due.due("two unlike", Due.open("d0;u5;u6;").ask(), 1);
        Due.due("two alike", Due.open("d0;u5;u5;").ask(), Due.NONE);
        Due.due("six unlike", Due.open("d0;u1;u2;u3;u4;u5;u6;").ask(), 1);
        Due.due("the last like the first", Due.open("d0;u1;u2;u3;u4;u5;u1;").ask(), Due.NONE);
        Due.due("the last two alike", Due.open("d0;u1;u2;u3;u4;u5;u5;").ask(), Due.NONE);
        Due.due("the first two alike", Due.open("d0;u1;u1;u3;u4;u5;u6;").ask(), Due.NONE);
        WhateverYard yard = Due.open("d0;u5;u6;");
        yard.left(1, 0, 5);
        Due.due("one is left of two", yard.ask(), Due.NONE);
        yard.left(1, 0, 6);
        Due.due("none is left of two", yard.ask(), Due.NONE);
        yard.tear();
        Due.due("two again", yard.ask(), 1);
    }

    private static void writing() {
        WhateverYard yard = Due.open(SHOP);
        for (int i = 1; i <= 15; i++) {
            Due.due("write(2, 180)", yard.write(2, 180), i);
            Due.due("told(10)", yard.told(10), i);
        }
        Due.due("a sixteenth", yard.write(2, 180), Due.FULL);
        Due.due("a sixteenth out of bounds", yard.write(2, 10000), Due.OUTSIDE);
        Due.due("a sixteenth of no piece", yard.write(3, 180), Due.UNKNOWN);
        Due.due("told(10)", yard.told(10), 15);
        Due.due("judge() of 15", yard.judge(), Due.NONE);
        yard.tear();
        for (int i = 0; i < 14; i++) yard.write(2, 180);
        yard.write(2, 0);
        Due.due("judge() of the last", yard.judge(), 14);
        yard.tear();
        Due.due("write(0, 0)", yard.write(0, 0), 1);
        Due.due("write(0, 9999)", yard.write(0, 9999), 2);
    }

    private static void writeRefusals() {
        WhateverYard yard = Due.open(SHOP);
        Due.due("write(3, 5)", yard.write(3, 5), Due.UNKNOWN);
        Due.due("write(-1, 5)", yard.write(-1, 5), Due.UNKNOWN);
        Due.due("write(3, -1)", yard.write(3, -1), Due.UNKNOWN);
        Due.due("write(0, -1)", yard.write(0, -1), Due.OUTSIDE);
        Due.due("write(0, 10000)", yard.write(0, 10000), Due.OUTSIDE);
        Due.due("told(10)", yard.told(10), 0);
        Due.due("judge()", yard.judge(), Due.NONE);
    }

    private static void tearing() {
        WhateverYard yard = Due.open(SHOP);
        Due.due("tear() of nothing", yard.tear(), 0);
        yard.left(1, 2, 3);
        yard.left(1, 2, 3);
        yard.write(0, 1);
        yard.write(0, 1);
        yard.write(0, 1);
        Due.due("tear()", yard.tear(), 5);
        Due.due("told(9)", yard.told(9), 0);
        Due.due("told(10)", yard.told(10), 0);
        Due.due("judge()", yard.judge(), Due.NONE);
        Due.due("boughtFor()", yard.boughtFor(), 15);
        Due.due("tear() again", yard.tear(), 0);
    }

    private static void judging() {
        WhateverYard yard = Due.open(SHOP);
        Due.due("judge() of no book", yard.judge(), Due.NONE);
        yard.write(0, 360);
        yard.write(1, 240);
        yard.write(2, 180);
        Due.due("all right", yard.judge(), Due.NONE);
        yard.write(1, 200);
        yard.write(0, 200);
        Due.due("the fourth is wrong", yard.judge(), 3);
        yard.cut(1, 1, 2);
        Due.due("now the second is", yard.judge(), 1);
        yard.cut(0, 0, 1);
        Due.due("now the first is", yard.judge(), 0);
        yard.undo();
        yard.undo();
        Due.due("undone", yard.judge(), 3);
        yard.change(0, 1);
        Due.due("lengths alone count", yard.judge(), 3);
    }
}
