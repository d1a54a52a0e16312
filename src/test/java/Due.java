/** What all tests share: a shop from its text, answers compared with what is due, the end of a test. */
final class Due {
    static final int NONE = WhateverYard.NONE, UNKNOWN = WhateverYard.UNKNOWN, OUTSIDE = WhateverYard.OUTSIDE;
    static final int NOT = WhateverYard.NOT, FULL = WhateverYard.FULL;
    private static int wrong = 0;
    private static int asked = 0;

    private Due() {
    }

    static void due(String call, long got, long want) {
        asked++;
        if (got == want) return;
        wrong++;
        System.out.println(call + " answered " + got + ", due is " + want);
    }

    static void feed(WhateverYard yard, String text) {
        for (int i = 0; i < text.length(); i++) {
            due("feed of letter " + i + " of '" + text + "'", yard.feed(text.charAt(i)), i + 1);
        }
    }

    /** A new object with the shop of a text that has no fault. */
    static WhateverYard open(String text) {
        WhateverYard yard = new WhateverYard();
        feed(yard, text);
        int uses = yard.shop();
        due("shop() of '" + text + "' is a shop", uses >= 0 ? 1 : 0, 1);
        return yard;
    }

    static void dueSum(WhateverYard yard, String what, int length, int paid, int waste, int undoable) {
        due(what + ": LENGTH of all", yard.told(8), length);
        due(what + ": PAID", yard.told(6), paid);
        due(what + ": WASTE", yard.told(7), waste);
        due(what + ": how many can be undone", yard.told(11), undoable);
    }

    static void end() {
        System.out.println(asked + " answers, " + wrong + " not as due");
        if (wrong != 0) System.exit(1);
    }
}
