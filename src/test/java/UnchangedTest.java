import java.util.ArrayList;
import java.util.List;

/**
 * "What is refused changes nothing", "TRIED: nothing changes by it", and of two REFUSALS that fit at once the first:
 * every refusal of every call, and every call that only asks, on an object of its own; a twin does without it.
 */
public final class UnchangedTest {
    private static final int LEAST = Integer.MIN_VALUE, MOST = Integer.MAX_VALUE, ANY = 7777777;
    /** Three USES, two TABLES, two PIECES, two WANTS. */
    private static final String SHOP = "d10;u36;u20;u36;t0 1 2 3;t1 0 3 2;p0 10;p1 12;n1 3;n0 2;";
    private static final String WASTEFUL = "d0;u1;u99;t0 1 1 20;t1 0 1 20;p0 40;";

    private interface Maker {
        WhateverYard made();
    }

    private interface Call {
        int on(WhateverYard yard);
    }

    private interface CallOf {
        int on(WhateverYard yard, int number);
    }

    public static void main(String[] args) {
        unknown();
        outside();
        not();
        ofTwoTheFirst();
        fullText();
        fullLeft();
        fullBook();
        wasteful();
        noShop();
        nothingDone();
        tried();
        faults();
        Due.end();
    }

    /** Something of all kinds was done; IMAGE 0 was not kept; PIECE 0 is DECLARED for USE 1, PIECE 1 for USE 0. */
    private static WhateverYard busyShop() {
        WhateverYard yard = Due.open(SHOP);
        yard.seed(77);
        yard.turn(0, 0);
        yard.keep(1);
        yard.change(1, 0);
        yard.cut(1, 0, 1);
        yard.change(1, 1);
        yard.change(1, 2);
        yard.drift(1);
        yard.change(1, 0);
        yard.seed(78);
        yard.left(5, 10, 170);
        yard.left(4, 0, 144);
        yard.write(0, yard.piece(0, 0));
        yard.write(1, 5);
        return yard;
    }

    private static WhateverYard busyShopAndText() {
        WhateverYard yard = busyShop();
        Due.feed(yard, "d7;u9;");
        return yard;
    }

    /** THE TEXT, LEFT and THE BOOK are full. */
    private static WhateverYard fullShop() {
        WhateverYard yard = Due.open(SHOP);
        for (int i = 0; i < 6; i++) yard.left(5, 10, 170);
        for (int i = 0; i < 15; i++) yard.write(1, 240);
        yard.cut(1, 1, 1);
        Due.feed(yard, "d7;" + " ".repeat(237));
        return yard;
    }

    /** WASTE is above 90000, and twenty can be undone. */
    private static WhateverYard wastefulShop() {
        WhateverYard yard = Due.open(WASTEFUL);
        for (int i = 0; i < 24; i++) yard.turn(0, i % 2);
        yard.seed(5);
        return yard;
    }

    private static WhateverYard withoutShop() {
        WhateverYard yard = new WhateverYard();
        yard.seed(5);
        yard.left(1, 2, 3);
        Due.feed(yard, "d7;u9;");
        return yard;
    }

    private static WhateverYard untouchedShop() {
        WhateverYard yard = Due.open(SHOP);
        yard.cut(0, 0, 1);
        yard.undo();
        return yard;
    }

    private static void unchanged(Maker maker, String name, int due, Call call) {
        WhateverYard twin = maker.made();
        WhateverYard yard = maker.made();
        int got = call.on(yard);
        if (due != ANY) Due.due(name, got, due);
        Due.due(name + ": fault() behind it", yard.fault(), twin.fault());
        Trace.same(name, Trace.of(yard), Trace.of(twin));
    }

    private static void refused(String name, int due, Call call) {
        unchanged(UnchangedTest::busyShopAndText, name, due, call);
    }

    private static void unknown() {
        unknown("yard", 3, WhateverYard::yard);
        unknown("table(it, 0)", 2, (yard, t) -> yard.table(t, 0));
        unknown("piece(it, 0)", 2, (yard, p) -> yard.piece(p, 0));
        unknown("wanted(it, 0)", 2, (yard, n) -> yard.wanted(n, 0));
        unknown("cut(it, 0, 1)", 2, (yard, p) -> yard.cut(p, 0, 1));
        unknown("cut(0, it, 1)", 3, (yard, u) -> yard.cut(0, u, 1));
        unknown("turn(it, 0)", 2, (yard, p) -> yard.turn(p, 0));
        unknown("turn(0, it)", 2, (yard, t) -> yard.turn(0, t));
        unknown("change(it, 0)", 2, (yard, p) -> yard.change(p, 0));
        unknown("change(0, it)", 3, (yard, u) -> yard.change(0, u));
        unknown("most(it, 0, 1, -1)", 3, (yard, a) -> yard.most(a, 0, 1, -1));
        unknown("most(0, it, 1, -1)", 3, (yard, b) -> yard.most(0, b, 1, -1));
        unknown("write(it, 5)", 2, (yard, p) -> yard.write(p, 5));
        unknown("keep", 2, WhateverYard::keep);
        unknown("goBack", 2, WhateverYard::goBack);
        for (int n : new int[] {-2, -3, 2, 6, LEAST, MOST}) refused("cutting of " + n, Due.UNKNOWN, yard -> yard.cutting(n));
    }

    /** There are that many of them, from 0 on. */
    private static void unknown(String name, int size, CallOf call) {
        Due.due(name + " of the last is not unknown", call.on(busyShop(), size - 1) == Due.UNKNOWN ? 1 : 0, 0);
        for (int number : new int[] {-1, size, 6, 8, LEAST, MOST}) {
            refused(name + " of " + number, Due.UNKNOWN, yard -> call.on(yard, number));
        }
    }

    private static void outside() {
        outside("feed", 0, 255, WhateverYard::feed);
        outside("told", 0, 12, WhateverYard::told);
        outside("table(0, it)", 0, 3, (yard, what) -> yard.table(0, what));
        outside("piece(0, it)", 0, 2, (yard, what) -> yard.piece(0, what));
        outside("wanted(0, it)", 0, 1, (yard, what) -> yard.wanted(0, what));
        outside("cut(0, 0, it)", 1, 40, (yard, n) -> yard.cut(0, 0, n));
        outside("drift", 1, 40, WhateverYard::drift);
        outside("most(0, 1, it, -1)", 1, 99, (yard, n) -> yard.most(0, 1, n, -1));
        outside("gain", 0, 1, WhateverYard::gain);
        outside("honest(it, 0)", 1, 999, (yard, n) -> yard.honest(n, 0));
        outside("honest(1, it)", 0, 1, (yard, what) -> yard.honest(1, what));
        outside("kept(it, 5)", 1, 20, (yard, n) -> yard.kept(n, 5));
        outside("kept(5, it)", 0, 100, (yard, q) -> yard.kept(5, q));
        outside("left(it, 0, 0)", 1, 40, (yard, n) -> yard.left(n, 0, 0));
        outside("left(1, it, 0)", 0, 999, (yard, c) -> yard.left(1, c, 0));
        outside("left(1, 0, it)", 0, 9999, (yard, l) -> yard.left(1, 0, l));
        outside("write(0, it)", 0, 9999, (yard, length) -> yard.write(0, length));
        outside("seed", 0, MOST, WhateverYard::seed);
    }

    /** The low and the high are let in; what is beyond them, a little or far, is not. */
    private static void outside(String name, int low, int high, CallOf call) {
        for (int number : new int[] {low, high}) {
            Due.due(name + " of " + number + " is not outside", call.on(busyShop(), number) == Due.OUTSIDE ? 1 : 0, 0);
        }
        for (long number : new long[] {low - 1L, high + 1L, LEAST, MOST}) {
            if (number >= low && number <= high || number > MOST) continue;
            refused(name + " of " + number, Due.OUTSIDE, yard -> call.on(yard, (int) number));
        }
    }

    private static void not() {
        refused("cut(0, 0, 40), shorter", Due.NOT, yard -> yard.cut(0, 0, 40));
        refused("turn(0, 0), declared for B", Due.NOT, yard -> yard.turn(0, 0));
        refused("turn(1, 1), declared for B", Due.NOT, yard -> yard.turn(1, 1));
        refused("change(0, 1), declared for it", Due.NOT, yard -> yard.change(0, 1));
        refused("change(1, 0), declared for it", Due.NOT, yard -> yard.change(1, 0));
        refused("goBack(0), not kept", Due.NOT, yard -> yard.goBack(0));
    }

    /** UNKNOWN ahead of OUTSIDE ahead of NOT. */
    private static void ofTwoTheFirst() {
        for (int wrong : new int[] {-1, LEAST, MOST}) {
            refused("table(2, " + wrong + ")", Due.UNKNOWN, yard -> yard.table(2, wrong));
            refused("piece(2, " + wrong + ")", Due.UNKNOWN, yard -> yard.piece(2, wrong));
            refused("wanted(2, " + wrong + ")", Due.UNKNOWN, yard -> yard.wanted(2, wrong));
            refused("cut(2, 0, " + wrong + ")", Due.UNKNOWN, yard -> yard.cut(2, 0, wrong));
            refused("cut(0, 3, " + wrong + ")", Due.UNKNOWN, yard -> yard.cut(0, 3, wrong));
            refused("most(3, 0, " + wrong + ", -1)", Due.UNKNOWN, yard -> yard.most(3, 0, wrong, -1));
            refused("most(0, 3, " + wrong + ", -1)", Due.UNKNOWN, yard -> yard.most(0, 3, wrong, -1));
            refused("write(2, " + wrong + ")", Due.UNKNOWN, yard -> yard.write(2, wrong));
        }
        refused("cut(2, 0, 0)", Due.UNKNOWN, yard -> yard.cut(2, 0, 0));
        refused("cut(0, 3, 41)", Due.UNKNOWN, yard -> yard.cut(0, 3, 41));
        refused("cut(2, 0, 40), shorter than that too", Due.UNKNOWN, yard -> yard.cut(2, 0, 40));
        refused("cut(0, 0, 41), shorter too", Due.OUTSIDE, yard -> yard.cut(0, 0, 41));
        refused("most(3, 3, 1, -1), one twice too", Due.UNKNOWN, yard -> yard.most(3, 3, 1, -1));
        refused("most(0, 0, 0, -1)", Due.OUTSIDE, yard -> yard.most(0, 0, 0, -1));
        refused("most(0, 1, 100, 9), no such i too", Due.OUTSIDE, yard -> yard.most(0, 1, 100, 9));
        refused("goBack(2), not kept too", Due.UNKNOWN, yard -> yard.goBack(2));
    }

    private static void full(String name, int due, Call call) {
        unchanged(UnchangedTest::fullShop, name + " when full", due, call);
    }

    private static void fullText() {
        for (int letter : new int[] {0, ' ', 'd', 255}) full("feed(" + letter + ")", Due.FULL, yard -> yard.feed(letter));
        for (int letter : new int[] {-1, 256, LEAST, MOST}) full("feed(" + letter + ")", Due.OUTSIDE, yard -> yard.feed(letter));
    }

    private static void fullLeft() {
        full("left(1, 0, 0)", Due.FULL, yard -> yard.left(1, 0, 0));
        full("left(40, 999, 9999)", Due.FULL, yard -> yard.left(40, 999, 9999));
        full("left(0, 0, 0)", Due.OUTSIDE, yard -> yard.left(0, 0, 0));
        full("left(41, 0, 0)", Due.OUTSIDE, yard -> yard.left(41, 0, 0));
        full("left(1, -1, 0)", Due.OUTSIDE, yard -> yard.left(1, -1, 0));
        full("left(1, 1000, 0)", Due.OUTSIDE, yard -> yard.left(1, 1000, 0));
        full("left(1, 0, -1)", Due.OUTSIDE, yard -> yard.left(1, 0, -1));
        full("left(1, 0, 10000)", Due.OUTSIDE, yard -> yard.left(1, 0, 10000));
    }

    private static void fullBook() {
        full("write(0, 0)", Due.FULL, yard -> yard.write(0, 0));
        full("write(1, 9999)", Due.FULL, yard -> yard.write(1, 9999));
        full("write(0, -1)", Due.OUTSIDE, yard -> yard.write(0, -1));
        full("write(0, 10000)", Due.OUTSIDE, yard -> yard.write(0, 10000));
        full("write(2, 0)", Due.UNKNOWN, yard -> yard.write(2, 0));
        full("write(-1, -1)", Due.UNKNOWN, yard -> yard.write(-1, -1));
    }

    private static void wasteful() {
        Maker shop = UnchangedTest::wastefulShop;
        unchanged(shop, "drift(1) above 90000", Due.FULL, yard -> yard.drift(1));
        unchanged(shop, "drift(40) above 90000", Due.FULL, yard -> yard.drift(40));
        unchanged(shop, "drift(0) above 90000", Due.OUTSIDE, yard -> yard.drift(0));
        unchanged(shop, "drift(41) above 90000", Due.OUTSIDE, yard -> yard.drift(41));
        unchanged(shop, "cut with twenty to be undone", Due.NOT, yard -> yard.cut(0, 1, 40));
        unchanged(shop, "turn with twenty to be undone", Due.NOT, yard -> yard.turn(0, 1));
        unchanged(shop, "change with twenty to be undone", Due.NOT, yard -> yard.change(0, 0));
    }

    private static void unopened(String name, int due, Call call) {
        unchanged(UnchangedTest::withoutShop, name + " without a shop", due, call);
    }

    private static void noShop() {
        unopened("yard(0)", Due.UNKNOWN, yard -> yard.yard(0));
        unopened("table(0, 4)", Due.UNKNOWN, yard -> yard.table(0, 4));
        unopened("piece(0, 3)", Due.UNKNOWN, yard -> yard.piece(0, 3));
        unopened("wanted(0, 2)", Due.UNKNOWN, yard -> yard.wanted(0, 2));
        unopened("cut(0, 0, 41)", Due.UNKNOWN, yard -> yard.cut(0, 0, 41));
        unopened("turn(0, 0)", Due.UNKNOWN, yard -> yard.turn(0, 0));
        unopened("change(0, 0)", Due.UNKNOWN, yard -> yard.change(0, 0));
        unopened("drift(0)", Due.OUTSIDE, yard -> yard.drift(0));
        unopened("drift(41)", Due.OUTSIDE, yard -> yard.drift(41));
        unopened("drift(1)", Due.NOT, yard -> yard.drift(1));
        unopened("drift(40)", Due.NOT, yard -> yard.drift(40));
        unopened("undo()", Due.NOT, WhateverYard::undo);
        unopened("most(0, 0, 0, -1)", Due.UNKNOWN, yard -> yard.most(0, 0, 0, -1));
        unopened("gain(2)", Due.OUTSIDE, yard -> yard.gain(2));
        unopened("cutting(0)", Due.UNKNOWN, yard -> yard.cutting(0));
        unopened("honest(0, 0)", Due.OUTSIDE, yard -> yard.honest(0, 0));
        unopened("honest(1, 2)", Due.OUTSIDE, yard -> yard.honest(1, 2));
        unopened("kept(21, 0)", Due.OUTSIDE, yard -> yard.kept(21, 0));
        unopened("write(0, -1)", Due.UNKNOWN, yard -> yard.write(0, -1));
        unopened("seed(-1)", Due.OUTSIDE, yard -> yard.seed(-1));
        unopened("keep(2)", Due.UNKNOWN, yard -> yard.keep(2));
        unopened("goBack(0)", Due.NOT, yard -> yard.goBack(0));
        unopened("goBack(1)", Due.NOT, yard -> yard.goBack(1));
        unopened("goBack(2)", Due.UNKNOWN, yard -> yard.goBack(2));
    }

    private static void nothingDone() {
        Maker shop = UnchangedTest::untouchedShop;
        unchanged(shop, "undo() behind the last", Due.NOT, WhateverYard::undo);
        unchanged(shop, "cut(0, 0, 11)", Due.NOT, yard -> yard.cut(0, 0, 11));
        unchanged(shop, "cut(0, 0, 0)", Due.OUTSIDE, yard -> yard.cut(0, 0, 0));
        unchanged(shop, "turn(0, 1)", Due.NOT, yard -> yard.turn(0, 1));
        unchanged(shop, "change(0, 0)", Due.NOT, yard -> yard.change(0, 0));
        unchanged(shop, "drift(0)", Due.OUTSIDE, yard -> yard.drift(0));
    }

    private static List<Call> asking() {
        List<Call> calls = new ArrayList<>(List.of(WhateverYard::agree, WhateverYard::clash, WhateverYard::slips,
            WhateverYard::leastDues, WhateverYard::remnants, WhateverYard::boughtFor, WhateverYard::ask, WhateverYard::judge));
        calls.addAll(List.of(yard -> yard.gain(0), yard -> yard.gain(1), yard -> yard.cutting(-1), yard -> yard.cutting(0),
            yard -> yard.most(0, 1, 99, -1), yard -> yard.most(1, 0, 50, -2), yard -> yard.most(0, 1, 9, 0)));
        calls.addAll(List.of(yard -> yard.honest(100, 0), yard -> yard.honest(999, 1), yard -> yard.kept(20, 50)));
        calls.addAll(List.of(WhateverYard::fault, yard -> yard.yard(0), yard -> yard.table(1, 3), yard -> yard.piece(0, 2),
            yard -> yard.wanted(1, 1), yard -> yard.told(12)));
        return calls;
    }

    private static void tried() {
        List<Call> calls = asking();
        for (int i = 0; i < calls.size(); i++) {
            unchanged(UnchangedTest::busyShopAndText, "what is tried or asked, number " + i, ANY, calls.get(i));
            unchanged(UnchangedTest::wastefulShop, "what is tried or asked when wasteful, number " + i, ANY, calls.get(i));
            unchanged(UnchangedTest::withoutShop, "what is tried or asked without a shop, number " + i, ANY, calls.get(i));
        }
    }

    /** All else is as it was: THE TEXT alone is empty, and fault() tells the place. */
    private static void faults() {
        faulty("u1;", -11, 0);
        faulty("d1;u2;u3;u4;u5;t0 1 1 1;p0 9;p1 9;n0 9;q", -11, 39);
        faulty("d1;u100;", -12, 4);
        faulty("d1;d", -13, 3);
        faulty("d1;u1;t0 0", -14, 9);
        faulty("d1", -11, 2);
    }

    private static void faulty(String text, int answer, int place) {
        for (int busy = 0; busy < 2; busy++) {
            WhateverYard twin = busy == 1 ? busyShop() : new WhateverYard();
            WhateverYard yard = busy == 1 ? busyShop() : new WhateverYard();
            Due.feed(yard, text);
            Due.due("shop() of '" + text + "'", yard.shop(), answer);
            Due.due("fault() of '" + text + "'", yard.fault(), place);
            Trace.same("the fault of '" + text + "'", Trace.of(yard), Trace.of(twin));
        }
    }
}
