import java.util.ArrayList;
import java.util.List;

/** What an object answers to a long row of calls, the same for each object: two that are alike answer alike. */
final class Trace {
    private Trace() {
    }

    /** Asks all that is so, then undoes all, goes back to both images and opens the text fed so far: the object is used up. */
    static List<Integer> of(WhateverYard yard) {
        List<Integer> answers = new ArrayList<>();
        askAll(yard, answers);
        for (int i = 0; i < 21; i++) {
            int more = yard.undo();
            answers.add(more);
            if (more < 0) break;
            askCloth(yard, answers);
        }
        for (int i = 0; i < 2; i++) {
            answers.add(yard.goBack(i));
            askCloth(yard, answers);
            answers.add(yard.seed(0));
        }
        answers.add(yard.shop());
        answers.add(yard.fault());
        answers.add(yard.told(0));
        return answers;
    }

    private static void askAll(WhateverYard yard, List<Integer> answers) {
        for (int what = 0; what <= 12; what++) answers.add(yard.told(what));
        for (int p = 0; p < yard.told(3); p++) {
            answers.add(yard.piece(p, 0));
            answers.add(yard.piece(p, 1));
        }
        answers.add(yard.boughtFor());
        answers.add(yard.judge());
        int seed = yard.seed(0);
        yard.seed(seed);
        answers.add(seed);
    }

    private static void askCloth(WhateverYard yard, List<Integer> answers) {
        for (int what = 6; what <= 8; what++) answers.add(yard.told(what));
    }

    static void same(String what, List<Integer> got, List<Integer> want) {
        int at = 0;
        while (at < got.size() && at < want.size() && got.get(at).equals(want.get(at))) at++;
        boolean alike = at == got.size() && at == want.size();
        Due.due(what + ": the first answer that is not as without it (" + got + ", due " + want + ")", alike ? -1 : at, -1);
    }
}
