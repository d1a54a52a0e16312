import java.util.ArrayList;
import java.util.List;

/**
 * Runs of calls by draws, with wrong arguments among them, each answer compared with that of a plain model that
 * tries everything. No call may throw, and none may change what it should not.
 */
public final class ModelTest {
    private static final int RUNS = 400, CALLS = 512, TEXTS = 4000;
    private static final String LETTERS = "dutpn;;  0123456789x";
    private static long draws = 20261120;
    /** How many calls are left to the object of this run. */
    private static int left = 0;

    public static void main(String[] args) {
        for (int run = 0; run < RUNS; run++) run();
        for (int i = 0; i < TEXTS; i++) {
            left = CALLS;
            tell(new WhateverYard(), new Model(), spoiled(text()));
        }
        Due.end();
    }

    /** From low to high. */
    private static int draw(int low, int high) {
        draws = draws * 6364136223846793005L + 1442695040888963407L;
        return low + (int) ((draws >>> 33) % (high - low + 1));
    }

    private static void run() {
        WhateverYard yard = new WhateverYard();
        Model model = new Model();
        left = CALLS;
        if (draw(0, 9) > 0) tell(yard, model, text());
        while (left > 1) {
            if (draw(0, 99) == 0) tell(yard, model, draw(0, 3) == 0 ? text() : spoiled(text()));
            else one(yard, model);
        }
    }

    private static void tell(WhateverYard yard, Model model, String text) {
        if (left < text.length() + 10) return;
        for (int i = 0; i < text.length(); i++) same("feed", yard.feed(text.charAt(i)), model.feed(text.charAt(i)), text.charAt(i));
        String whole = model.text.toString();
        Due.due("shop() of '" + whole + "'", yard.shop(), model.shop());
        Due.due("fault() of '" + whole + "'", yard.fault(), model.fault);
        left -= 2;
    }

    /** A text with some letters changed, lost or put in, which has a fault for the most part. */
    private static String spoiled(String text) {
        StringBuilder spoiled = new StringBuilder(text);
        for (int i = draw(1, 3); i > 0; i--) {
            int at = draw(0, spoiled.length() - 1);
            char letter = draw(0, 9) == 0 ? (char) draw(0, 255) : LETTERS.charAt(draw(0, LETTERS.length() - 1));
            int kind = draw(0, 3);
            if (kind == 0) spoiled.setCharAt(at, letter);
            else if (kind == 1) spoiled.insert(at, letter);
            else if (kind == 2) spoiled.insert(at, spoiled.substring(at, Math.min(spoiled.length(), at + draw(1, 9))));
            else if (spoiled.length() > 1) spoiled.deleteCharAt(at);
        }
        return spoiled.toString();
    }

    private static String text() {
        int uses = draw(0, 6);
        boolean gentle = draw(0, 2) > 0;
        StringBuilder text = new StringBuilder("d" + draw(0, draw(0, 1) * 80 + 19) + ";");
        for (int u = 0; u < uses; u++) text.append("u" + draw(1, gentle ? 50 : 99) + ";");
        List<String> pairs = new ArrayList<>();
        for (int t = draw(0, 9); t > 0 && pairs.size() < 8 && uses > 1; t--) {
            int a = draw(0, uses - 1), b = draw(0, uses - 1);
            if (a == b || pairs.contains(a + " " + b)) continue;
            pairs.add(a + " " + b);
            text.append("t" + a + " " + b + " " + draw(1, gentle ? 3 : 20) + " " + draw(1, gentle ? 3 : 20) + ";");
        }
        for (int p = draw(0, 6); p > 0 && uses > 0; p--) text.append("p" + draw(0, uses - 1) + " " + draw(1, 40) + ";");
        for (int n = draw(0, 6); n > 0 && uses > 0; n--) text.append("n" + draw(0, uses - 1) + " " + draw(1, gentle ? 9 : 20) + ";");
        return text.toString();
    }

    /** Mostly from low to high, now and then one beyond, seldom anything. */
    private static int some(int low, int high) {
        int kind = draw(0, 19);
        if (kind == 0) return draw(0, 1) == 0 ? low - 1 : high + 1;
        if (kind == 1 && draw(0, 3) == 0) return draw(0, 1) == 0 ? -2147483648 : 2147483647;
        return high < low ? low : draw(low, high);
    }

    private static int some(int size) {
        return some(0, size - 1);
    }

    private static void one(WhateverYard yard, Model model) {
        int uses = model.yards.length, tables = model.tables.length, pieces = model.pieces.length;
        int kind = draw(0, 34);
        int a, b, c, d;
        switch (kind) {
            case 0: a = some(0, 12); same("told", yard.told(a), model.told(a), a); break;
            case 1: a = some(uses); same("yard", yard.yard(a), model.yard(a), a); break;
            case 2: a = some(tables); b = some(0, 3); same("table", yard.table(a, b), model.table(a, b), a, b); break;
            case 3: case 4: a = some(pieces); b = some(0, 2); same("piece", yard.piece(a, b), model.piece(a, b), a, b); break;
            case 5: a = some(model.wants.length); b = some(0, 1); same("wanted", yard.wanted(a, b), model.wanted(a, b), a, b); break;
            case 6: case 7: a = some(pieces); b = some(uses); c = some(1, draw(0, 3) == 0 ? 40 : 5);
                same("cut", yard.cut(a, b, c), model.cut(a, b, c), a, b, c); break;
            case 8: case 9: case 10: case 11: a = some(pieces); b = some(tables);
                same("turn", yard.turn(a, b), model.turn(a, b), a, b); break;
            case 12: case 13: a = some(pieces); b = some(uses); same("change", yard.change(a, b), model.change(a, b), a, b); break;
            case 14: a = some(1, 40); same("drift", yard.drift(a), model.drift(a), a); break;
            case 15: case 16: same("undo", yard.undo(), model.undo()); break;
            case 17: same("agree", yard.agree(), model.agree(-1) ? 1 : 0); break;
            case 18: same("clash", yard.clash(), model.clash()); break;
            case 19: same("slips", yard.slips(), model.slips()); break;
            case 20: a = some(uses); b = some(uses); c = some(1, 99); d = some(-2, 4);
                same("most", yard.most(a, b, c, d), model.most(a, b, c, d), a, b, c, d); break;
            case 21: a = some(0, 1); same("gain", yard.gain(a), model.gain(a), a); break;
            case 22: if (draw(0, 5) == 0) same("leastDues", yard.leastDues(), model.leastDues()); break;
            case 23: a = some(-1, model.wants.length - 1); same("cutting", yard.cutting(a), model.cutting(a), a); break;
            case 24: a = some(1, 999); b = some(0, 1); same("honest", yard.honest(a, b), model.honest(a, b), a, b); break;
            case 25: same("remnants", yard.remnants(), model.remnants()); break;
            case 26: a = some(1, 20); b = some(0, 100); same("kept", yard.kept(a, b), model.kept(a, b), a, b); break;
            case 27: a = some(1, 9); b = some(0, 9); c = uses > 0 ? a * model.yards[draw(0, uses - 1)] - b : some(0, 9999);
                same("left", yard.left(a, b, c), model.left(a, b, c), a, b, c); break;
            case 28: same("boughtFor", yard.boughtFor(), model.boughtFor()); same("ask", yard.ask(), model.ask()); break;
            case 29: a = some(pieces); b = draw(0, 2) == 0 || a < 0 || a >= pieces ? some(0, 9999) : model.now.lengths[a];
                same("write", yard.write(a, b), model.write(a, b), a, b); same("judge", yard.judge(), model.judge()); break;
            case 30: if (draw(0, 5) == 0) same("tear", yard.tear(), model.tear()); break;
            case 31: a = some(0, 2147483646); same("seed", yard.seed(a), model.seed(a), a); break;
            case 32: if (draw(0, 9) > 0) break;
                a = some(0, 255); same("feed", yard.feed(a), model.feed(a), a); break;
            case 33: a = some(0, 1); same("keep", yard.keep(a), model.keep(a), a); break;
            default: a = some(0, 1); same("goBack", yard.goBack(a), model.goBack(a), a); break;
        }
    }

    private static void same(String name, int got, int want, int... given) {
        left--;
        StringBuilder call = new StringBuilder(name).append('(');
        for (int i = 0; i < given.length; i++) call.append(i == 0 ? "" : ", ").append(given[i]);
        Due.due(call + ")", got, want);
    }
}
