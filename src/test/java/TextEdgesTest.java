/** Part 1, sentence by sentence: the bounds of the text and its NUMBERS, the blanks, the FAULTS and where each lies. */
public final class TextEdgesTest {
    private static final String THREE = "d0;u1;u2;u3;";
    private static final String SIX = "d0;u1;u2;u3;u4;u5;u6;";
    private static final String WHOLE = "d10;u36;u20;t0 1 12 13;p0 10;n1 13;";

    private interface Teller {
        int of(WhateverYard yard);
    }

    public static void main(String[] args) {
        letters();
        fullText();
        slots();
        counts();
        otherWords();
        blanks();
        oneLetterInstead();
        ends();
        firstLetter();
        leastOfSeveral();
        tablesOnce();
        toldAhead();
        emptyTexts();
        latestFault();
        Due.end();
    }

    private static WhateverYard read(String text, int answer, int place) {
        WhateverYard yard = new WhateverYard();
        Due.feed(yard, text);
        Due.due("shop() of '" + text + "'", yard.shop(), answer);
        Due.due("fault() of '" + text + "'", yard.fault(), place);
        Due.due("letters behind '" + text + "'", yard.told(5), 0);
        return yard;
    }

    private static void fault(String text, int number, int place) {
        WhateverYard yard = read(text, -10 - number, place);
        Due.due("a shop by '" + text + "'", yard.told(12), 0);
    }

    private static WhateverYard good(String text, int uses) {
        WhateverYard yard = read(text, uses, Due.NONE);
        Due.due("a shop by '" + text + "'", yard.told(12), 1);
        return yard;
    }

    private static int usesOf(String text) {
        return text.length() - text.replace("u", "").length();
    }

    /** "One letter (a number 0 .. 255)". */
    private static void letters() {
        WhateverYard yard = new WhateverYard();
        Due.due("feed(0)", yard.feed(0), 1);
        Due.due("feed(255)", yard.feed(255), 2);
        Due.due("feed(-1)", yard.feed(-1), Due.OUTSIDE);
        Due.due("feed(256)", yard.feed(256), Due.OUTSIDE);
        Due.due("told(5)", yard.told(5), 2);
    }

    /** "240 letters at most": the last is read, the next is refused, and the end may lie behind the last. */
    private static void fullText() {
        WhateverYard yard = good("d9;" + " ".repeat(233) + "u99;", 1);
        Due.due("yard(0) at the end of 240", yard.yard(0), 99);
        good("d9;" + " ".repeat(237), 0);
        fault(" ".repeat(239) + "d", 1, 240);
        fault(" ".repeat(237) + "d99", 1, 240);
        fault("d9;" + " ".repeat(236) + "x", 1, 239);
        fault("d9;" + " ".repeat(236) + "d", 3, 239);
        fault("d9;" + " ".repeat(235) + "u0", 2, 239);
        yard = new WhateverYard();
        Due.feed(yard, "d9;" + " ".repeat(237));
        Due.due("told(5) when full", yard.told(5), 240);
        Due.due("a 241st", yard.feed('x'), Due.FULL);
        Due.due("told(5) behind it", yard.told(5), 240);
        Due.due("shop() without the 241st", yard.shop(), 0);
        Due.due("told(0)", yard.told(0), 9);
        Due.due("feed() behind it", yard.feed('x'), 1);
    }

    /** Each NUMBER with its bounds, in a text that ends with it: "out of its bounds (at its first)". */
    private static void slots() {
        slot("d", ";", 0, 99, yard -> yard.told(0));
        slot("d0;u", ";", 1, 99, yard -> yard.yard(0));
        slot(THREE + "u", ";", 1, 99, yard -> yard.yard(3));
        slot(THREE + "t", " 1 1 1;", 2, 2, yard -> yard.table(0, 0));
        slot(THREE + "t", " 1 1 1;", 0, 0, yard -> yard.table(0, 0));
        slot(THREE + "t0 ", " 1 1;", 1, 2, yard -> yard.table(0, 1));
        slot(THREE + "t2 ", " 1 1;", 0, 1, yard -> yard.table(0, 1));
        slot(THREE + "t0 1 ", " 1;", 1, 20, yard -> yard.table(0, 2));
        slot(THREE + "t0 1 1 ", ";", 1, 20, yard -> yard.table(0, 3));
        slot(THREE + "p", " 7;", 0, 2, yard -> yard.piece(0, 1));
        slot(THREE + "p0 ", ";", 1, 40, yard -> yard.piece(0, 0));
        slot(THREE + "n", " 7;", 0, 2, yard -> yard.wanted(0, 0));
        slot(THREE + "n0 ", ";", 1, 20, yard -> yard.wanted(0, 1));
        slot(SIX + "p", " 7;", 5, 5, yard -> yard.piece(0, 1));
        slot(SIX + "n", " 7;", 5, 5, yard -> yard.wanted(0, 0));
        slot(SIX + "t", " 1 1 1;", 5, 5, yard -> yard.table(0, 0));
        slot(SIX + "t0 ", " 1 1;", 5, 5, yard -> yard.table(0, 1));
        beyond(THREE + "t", 3, " 1 1 1;");
        beyond(THREE + "t0 ", 3, " 1 1;");
        beyond(THREE + "p", 3, " 7;");
        beyond(THREE + "n", 3, " 7;");
        beyond(SIX + "t", 6, " 1 1 1;");
        beyond(SIX + "t0 ", 6, " 1 1;");
        beyond(SIX + "p", 6, " 7;");
        beyond(SIX + "n", 6, " 7;");
        beyond("d", 100, ";");
        beyond("d0;u", 0, ";");
        beyond("d0;u", 100, ";");
        beyond(THREE + "t0 1 ", 0, " 1;");
        beyond(THREE + "t0 1 ", 21, " 1;");
        beyond(THREE + "t0 1 1 ", 0, ";");
        beyond(THREE + "t0 1 1 ", 21, ";");
        beyond(THREE + "p0 ", 0, ";");
        beyond(THREE + "p0 ", 41, ";");
        beyond(THREE + "n0 ", 0, ";");
        beyond(THREE + "n0 ", 21, ";");
    }

    private static void slot(String ahead, String behind, int low, int high, Teller told) {
        int uses = usesOf(ahead);
        int place = ahead.length();
        for (int number : new int[] {low, high}) {
            String[] ways = {"" + number, String.format("%02d", number), String.format("%03d", number), "   " + number + "  "};
            for (String way : ways) {
                String text = ahead + way + behind;
                Due.due("what '" + text + "' tells", told.of(good(text, uses)), number);
            }
            fault(ahead + String.format("%04d", number) + behind, 2, place);
            fault(ahead + "  " + String.format("%05d", number) + behind, 2, place + 2);
            fault(ahead + String.format("%04d", number), 2, place);
        }
        fault(ahead + "99999999999" + behind, 2, place);
        fault(ahead + "4294967297" + behind, 2, place);
        fault(ahead + behind.substring(behind.length() - 1), 1, place);
        fault(ahead, 1, place);
        fault(ahead + "   ", 1, place + 3);
        fault(ahead + "-1" + behind, 1, place);
        fault(ahead + "x1" + behind, 1, place);
        fault(ahead + low + "x" + behind, 1, (ahead + low).length());
    }

    private static void beyond(String ahead, int number, String behind) {
        fault(ahead + number + behind, 2, ahead.length());
        fault(ahead + "  " + number + " " + behind, 2, ahead.length() + 2);
        fault(ahead + String.format("%03d", number) + behind, 2, ahead.length());
        fault(ahead + number, 2, ahead.length());
        fault(ahead + "999" + behind, 2, ahead.length());
    }

    /** "6 USES at most" and their like: "'d' again, a seventh 'u', 'p', 'n', a ninth 't' (at it)". */
    private static void counts() {
        full("d0;", "u7;", 6, 1);
        full("d0;u9;", "p0 7;", 6, 3);
        full("d0;u9;", "n0 7;", 6, 4);
        String[] tables = {"t0 1 1 1;", "t0 2 1 1;", "t0 3 1 1;", "t0 4 1 1;", "t0 5 1 1;", "t1 0 1 1;", "t1 2 1 1;", "t1 3 1 1;"};
        String text = SIX + String.join("", tables);
        Due.due("eight tables", good(text, 6).told(2), 8);
        Due.due("seven tables", good(text.substring(0, text.length() - 9), 6).told(2), 7);
        fault(text + "t1 4 1 1;", 3, text.length());
        fault(text + "  t", 3, text.length() + 2);
        fault("d0;d0;", 3, 3);
        fault("d0;  d", 3, 5);
        fault(SIX + "p0 1;n0 1;d9;", 3, SIX.length() + 10);
        String all = text + "p0 1;".repeat(6) + "n0 1;".repeat(6);
        WhateverYard yard = good(all, 6);
        for (int what = 1; what <= 4; what++) Due.due("all of them, told(" + what + ")", yard.told(what), what == 2 ? 8 : 6);
        for (String more : new String[] {"u7;", "t1 4 1 1;", "p0 1;", "n0 1;", "d0;"}) fault(all + more, 3, all.length());
    }

    private static void full(String ahead, String clause, int most, int what) {
        String text = ahead + clause.repeat(most);
        Due.due("told(" + what + ") of '" + text + "'", good(text, usesOf(text)).told(what), most);
        fault(text + clause, 3, text.length());
        fault(text + " " + clause.charAt(0), 3, text.length() + 1);
        fault(text + clause.charAt(0) + "x", 3, text.length());
    }

    /** "A letter that is no word, another word first than 'd'": all 256, first in a text and behind 'd'. */
    private static void otherWords() {
        for (int letter = 0; letter < 256; letter++) {
            String one = String.valueOf((char) letter);
            if (letter == ' ') read(one, 0, Due.NONE);
            else fault(one, 1, letter == 'd' ? 1 : 0);
            String behind = "d5;" + one;
            boolean word = "utpn".indexOf(letter) >= 0;
            if (letter == ' ') good(behind, 0);
            else if (letter == 'd') fault(behind, 3, 3);
            else fault(behind, 1, word ? 4 : 3);
        }
        for (String first : new String[] {"u1;", "t0 1 1 1;", "p0 1;", "n0 1;"}) {
            fault(first, 1, 0);
            fault("  " + first + "d0;", 1, 2);
        }
    }

    /** "Blanks (32) may stand anywhere but within NUMBERS; two NUMBERS side by side need one." */
    private static void blanks() {
        WhateverYard yard = good(" d 9 ; u 36 ; u 20 ; t 0 1 12 13 ; p 0 10 ; n 1 13 ; ", 2);
        int[] told = {9, 2, 1, 1, 1};
        for (int what = 0; what < 5; what++) Due.due("with blanks: told(" + what + ")", yard.told(what), told[what]);
        Due.due("with blanks: table(0, 3)", yard.table(0, 3), 13);
        Due.due("with blanks: piece(0, 0)", yard.piece(0, 0), 360);
        good("d9;u36;u20;t0 1 12 13;p0 10;n1 13;", 2);
        good("d9;u36;u20;t0    1    12    13;p0    10;n1    13;", 2);
        fault("d1 0;", 1, 3);
        fault("d0;u3 6;", 1, 6);
        fault(THREE + "t01 12 13;", 2, 16);
        fault(THREE + "t01 2 13;", 1, 20);
        fault(THREE + "t0 112 13;", 2, 15);
        fault(THREE + "t0 1 1 1 3;", 1, 21);
        fault(THREE + "p0 1 0;", 1, 17);
        fault(THREE + "n0 1 0;", 1, 17);
        fault(THREE + "p010;", 2, 13);
        fault(THREE + "p01;", 1, 15);
        for (char other : new char[] {0, 9, 10, 13, 31, 33, 160, 255}) {
            fault(other + "d0;", 1, 0);
            fault("d" + other + "0;", 1, 1);
            fault("d0" + other + ";", 1, 2);
            fault("d0;" + other, 1, 3);
            fault("d0;u1;u1;t0" + other + "1 1 1;", 1, 11);
        }
    }

    /** "It cannot stand there": every letter in the place of a NUMBER and of ';'. */
    private static void oneLetterInstead() {
        for (int letter = 0; letter < 256; letter++) {
            boolean figure = letter >= '0' && letter <= '9';
            char one = (char) letter;
            if (figure) good("d" + one + ";", 0);
            else fault("d" + one + ";", 1, letter == ' ' ? 2 : 1);
            if (letter == ';') good("d9" + one, 0);
            else fault("d9" + one, 1, figure || letter == ' ' ? 3 : 2);
        }
    }

    /** "The end at the text's length": a text cut off anywhere but behind a clause. */
    private static void ends() {
        for (int length = 1; length <= WHOLE.length(); length++) {
            String text = WHOLE.substring(0, length);
            if (text.endsWith(";")) {
                good(text, usesOf(text));
                good(text + "  ", usesOf(text));
            } else {
                fault(text, 1, length);
                fault(text + "  ", 1, length + 2);
            }
        }
    }

    /** "At the first letter that has one", whatever comes behind it. */
    private static void firstLetter() {
        fault("d0;u1;u1;t0 0 1 1;x", 4, 12);
        fault("d0;x;u1;u1;t0 0 1 1;", 1, 3);
        fault("d0;u100;u1;t0 0 1 1;", 2, 4);
        fault("d0;d100;", 3, 3);
        fault("d100;d0;", 2, 1);
        fault("d0;u1;t0 0 99 99", 4, 9);
        fault("d0;u1;t1 1 99 99", 2, 7);
        fault("d0;u1;u1;t0 1 0 0", 2, 14);
        fault("d0;u1;u1;t0 1 1 0", 2, 16);
        fault("d0;u1;p1 99", 2, 7);
        fault("d0;u1;p0 99", 2, 9);
        fault("d0;u1;n1 99", 2, 7);
        fault(SIX + "u0;", 3, 21);
        fault("u0;", 1, 0);
        fault("d1000x", 2, 1);
        fault("dx1000", 1, 1);
    }

    /** "Of these the least": two FAULTS at one letter. */
    private static void leastOfSeveral() {
        fault("d0d0;", 1, 2);
        fault("dd0;", 1, 1);
        fault(SIX + "p0 1u7;", 1, SIX.length() + 4);
        fault(SIX + "pu7;", 1, SIX.length() + 1);
        fault("d0;1000", 1, 3);
        fault("d0 1000;", 1, 3);
        fault("d0;u1;t0 0000 1 1;", 2, 9);
        fault("d0;u1;u1;t0 1 1 1;t0 0001 1 1;", 2, 21);
    }

    /** "B like A, both have that TABLE (at the B)"; "no two of the same A to the same B". */
    private static void tablesOnce() {
        fault("d0;u1;t0 0 1 1;", 4, 9);
        fault(THREE + "t2 2 1 1;", 4, 15);
        fault(THREE + "t2   002 1 1;", 4, 17);
        fault(THREE + "t0 1 1 1;t0 1 1 1;", 4, 24);
        fault(THREE + "t0 1 1 1;t1 0 1 1;t2 1 1 1;t0 1 2 2;", 4, 42);
        fault(THREE + "t1 2 1 1;t2 1 1 1;t1 2", 4, 33);
        Due.due("all six", good(THREE + "t0 1 1 1;t1 0 1 1;t0 2 1 1;t2 0 1 1;t1 2 1 1;t2 1 1 1;", 3).told(2), 6);
    }

    /** "A USE that was not told yet (at its first)": what is told behind it does not help. */
    private static void toldAhead() {
        fault("d0;t0 1 1 1;u1;u1;", 2, 4);
        fault("d0;u1;t0 1 1 1;u1;", 2, 9);
        fault("d0;u1;t1 0 1 1;u1;", 2, 7);
        fault("d0;p0 1;u1;", 2, 4);
        fault("d0;u1;p1 1;u1;", 2, 7);
        fault("d0;n0 1;u1;", 2, 4);
        fault("d0;u1;n1 1;u1;", 2, 7);
        WhateverYard yard = good("d0;u1;n0 1;u2;n1 1;u3;p2 1;t2 0 1 1;", 3);
        Due.due("told as they come: piece(0, 1)", yard.piece(0, 1), 2);
        Due.due("told as they come: wanted(1, 0)", yard.wanted(1, 0), 1);
    }

    /** "An empty text (or one of blanks alone) has no FAULT: no SHOP (what was is gone, D is 0)." */
    private static void emptyTexts() {
        for (String text : new String[] {"", " ", "     ", " ".repeat(240)}) {
            WhateverYard yard = read(text, 0, Due.NONE);
            for (int what = 0; what <= 12; what++) Due.due("new, empty text: told(" + what + ")", yard.told(what), 0);
            yard = busy();
            Due.feed(yard, text);
            Due.due("shop() of " + text.length() + " blanks", yard.shop(), 0);
            Due.due("fault()", yard.fault(), Due.NONE);
            for (int what = 0; what <= 12; what++) Due.due("empty text: told(" + what + ")", yard.told(what), 0);
            Due.due("yard(0)", yard.yard(0), Due.UNKNOWN);
            Due.due("table(0, 0)", yard.table(0, 0), Due.UNKNOWN);
            Due.due("piece(0, 0)", yard.piece(0, 0), Due.UNKNOWN);
            Due.due("wanted(0, 0)", yard.wanted(0, 0), Due.UNKNOWN);
            Due.due("drift(1)", yard.drift(1), Due.NOT);
            Due.due("undo()", yard.undo(), Due.NOT);
            Due.due("judge()", yard.judge(), Due.NONE);
            Due.due("tear()", yard.tear(), 0);
            Due.due("goBack(0)", yard.goBack(0), Due.NOT);
            Due.due("goBack(1)", yard.goBack(1), Due.NOT);
            Due.due("THE SEED stays", yard.seed(0), 99);
        }
        WhateverYard yard = good("d0;", 0);
        Due.due("a shop without uses is one: drift(1)", yard.drift(1), 0);
        Due.due("it can be undone", yard.told(11), 1);
    }

    private static WhateverYard busy() {
        WhateverYard yard = Due.open(WHOLE);
        yard.turn(0, 0);
        yard.change(0, 0);
        yard.change(0, 1);
        yard.keep(0);
        yard.keep(1);
        yard.cut(0, 1, 1);
        yard.left(1, 2, 3);
        yard.write(0, 5);
        yard.seed(99);
        Due.due("PAID of the busy one", yard.told(6) > 0 ? 1 : 0, 1);
        Due.due("WASTE of the busy one", yard.told(7) > 0 ? 1 : 0, 1);
        return yard;
    }

    /** fault() tells of "the latest shop()" alone. */
    private static void latestFault() {
        WhateverYard yard = new WhateverYard();
        Due.due("fault() of a new object", yard.fault(), Due.NONE);
        Due.feed(yard, "d0;x");
        Due.due("fault() ahead of shop()", yard.fault(), Due.NONE);
        yard.shop();
        Due.due("fault() behind it", yard.fault(), 3);
        Due.feed(yard, "d0;u1;");
        Due.due("fault() while another is fed", yard.fault(), 3);
        Due.due("shop() of the other", yard.shop(), 1);
        Due.due("fault() without one", yard.fault(), Due.NONE);
        Due.feed(yard, "d100");
        yard.shop();
        Due.due("fault() again", yard.fault(), 1);
        Due.due("shop() of nothing", yard.shop(), 0);
        Due.due("fault() of nothing", yard.fault(), Due.NONE);
    }
}
