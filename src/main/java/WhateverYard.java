/** A shop whose yards are as long as what the cloth is for: ../shared/DOC.md tells what each call answers. */
public final class WhateverYard {
    public static final int NONE = -1, UNKNOWN = -1000000001, OUTSIDE = -1000000002, NOT = -1000000003, FULL = -1000000004;

    private static final int MOST_LETTERS = 240, MOST_TABLES = 8, MOST_DUES = 99, MOST_YARD = 99, MOST_RATE = 20;
    // USES, PIECES and WANTS have the same bound in the document.
    private static final int MOST_EACH = 6;
    private static final int MOST_BOUGHT = 40, MOST_WANTED = 20, MOST_ASKED = 99, MOST_INCHES = 999;
    private static final int MOST_LENGTH = 9999, MOST_COUNTED = 999999, MOST_DAYS = 40, TOO_WASTEFUL = 90000;
    private static final int MOST_LEFT = 6, MOST_ENTRIES = 15, MOST_UNDONE = 20, MOST_IMAGES = 2;
    private static final int MOST_TURNS = 4, HOW_MANY_TURNS = -2, GAIN_FROM = 20;
    private static final int MOST_PEOPLE = 20, HUNDRED = 100, MILLION = 1000000, SURE_ENOUGH = 900000;
    private static final int CLOTH_CELLS = 2 * MOST_EACH + 2, IMAGE_CELLS = CLOTH_CELLS + 1;

    private final Reader reader = new Reader();
    private Shop shop = new Shop();
    private Shop draft = new Shop();
    private final Cloth now = new Cloth();
    private final Past past = new Past();
    private final Left leftTold = new Left();
    private final Book book = new Book();
    private final Heights heights = new Heights();
    private final Ways ways = new Ways();
    private final Cutter cutter = new Cutter();
    private final Row odds = new Row(MOST_PEOPLE + 1);
    private final Row images = new Row(MOST_IMAGES * IMAGE_CELLS);
    private int imagesKept = 0;
    private int drawn = 0;

    public WhateverYard() {
    }

    // ---- the shop

    public int feed(int letter) {
        if (letter < 0 || letter > 255) return OUTSIDE;
        if (reader.text.isFull()) return FULL;
        reader.text.add(letter);
        return reader.text.size();
    }

    public int shop() {
        int number = reader.read(draft);
        if (number != 0) return -10 - number;
        Shop gone = shop;
        shop = draft;
        draft = gone;
        now.begin(shop);
        leftTold.clear();
        book.clear();
        past.clear();
        imagesKept = 0;
        return shop.yards.size();
    }

    public int fault() {
        return reader.faultPlace;
    }

    public int told(int what) {
        switch (what) {
            case 0: return shop.dues;
            case 1: return shop.yards.size();
            case 2: return shop.tableFrom.size();
            case 3: return shop.pieceUse.size();
            case 4: return shop.wantUse.size();
            case 5: return reader.text.size();
            case 6: return now.paid;
            case 7: return now.waste;
            case 8: return now.lengthOfAll();
            case 9: return leftTold.size();
            case 10: return book.size();
            case 11: return past.size();
            case 12: return shop.open ? 1 : 0;
            default: return OUTSIDE;
        }
    }

    public int yard(int u) {
        if (!shop.yards.has(u)) return UNKNOWN;
        return shop.yards.at(u);
    }

    public int table(int t, int what) {
        if (!shop.tableFrom.has(t)) return UNKNOWN;
        switch (what) {
            case 0: return shop.tableFrom.at(t);
            case 1: return shop.tableTo.at(t);
            case 2: return shop.tableGiven.at(t);
            case 3: return shop.tableGot.at(t);
            default: return OUTSIDE;
        }
    }

    public int piece(int p, int what) {
        if (!shop.pieceUse.has(p)) return UNKNOWN;
        switch (what) {
            case 0: return now.lengths.at(p);
            case 1: return now.declared.at(p);
            case 2: return now.wholeYards(shop, p);
            default: return OUTSIDE;
        }
    }

    public int wanted(int n, int what) {
        if (!shop.wantUse.has(n)) return UNKNOWN;
        switch (what) {
            case 0: return shop.wantUse.at(n);
            case 1: return shop.wantYards.at(n);
            default: return OUTSIDE;
        }
    }

    // ---- what is done

    public int cut(int p, int u, int n) {
        if (!shop.pieceUse.has(p) || !shop.yards.has(u)) return UNKNOWN;
        if (n < 1 || n > MOST_BOUGHT) return OUTSIDE;
        int rest = now.lengths.at(p) - n * shop.yards.at(u);
        if (rest < 0) return NOT;
        past.push(now);
        now.lengths.put(p, rest);
        return rest;
    }

    public int turn(int p, int t) {
        if (!shop.pieceUse.has(p) || !shop.tableFrom.has(t)) return UNKNOWN;
        if (now.declared.at(p) != shop.tableFrom.at(t)) return NOT;
        past.push(now);
        now.turnPiece(shop, p, t);
        return now.lengths.at(p);
    }

    public int change(int p, int u) {
        if (!shop.pieceUse.has(p) || !shop.yards.has(u)) return UNKNOWN;
        if (now.declared.at(p) == u) return NOT;
        past.push(now);
        now.changePiece(shop, p, u);
        return now.paid;
    }

    public int drift(int n) {
        if (n < 1 || n > MOST_DAYS) return OUTSIDE;
        if (!shop.open) return NOT;
        if (now.waste > TOO_WASTEFUL) return FULL;
        past.push(now);
        int pieces = shop.pieceUse.size();
        int tables = shop.tableFrom.size();
        for (int day = 0; day < n && pieces > 0 && tables > 0; day++) {
            int p = draw(pieces);
            int t = draw(tables);
            if (now.declared.at(p) == shop.tableFrom.at(t)) now.turnPiece(shop, p, t);
        }
        return now.waste;
    }

    public int undo() {
        if (past.size() == 0) return NOT;
        past.pop(now);
        return past.size();
    }

    // ---- tried

    public int agree() {
        return heights.fit(shop, allTables()) ? 1 : 0;
    }

    public int clash() {
        for (int t = 0; t < shop.tableFrom.size(); t++) {
            if (!heights.fit(shop, (2 << t) - 1)) return t;
        }
        return NONE;
    }

    public int slips() {
        int all = allTables();
        if (heights.fit(shop, all)) return 0;
        int set = 0;
        for (int t = 0; t < shop.tableFrom.size(); t++) {
            if (heights.fit(shop, all & ~(1 << t))) set |= 1 << t;
        }
        return set;
    }

    public int most(int a, int b, int n, int i) {
        if (!shop.yards.has(a) || !shop.yards.has(b)) return UNKNOWN;
        if (n < 1 || n > MOST_ASKED) return OUTSIDE;
        ways.search(shop, a, b, n);
        if (i == NONE) return ways.bestYards;
        if (i == HOW_MANY_TURNS) return ways.bestTurns;
        if (i < 0 || i >= ways.bestTurns) return NONE;
        return ways.best.at(i);
    }

    public int gain(int what) {
        if (what < 0 || what > 1) return OUTSIDE;
        int user = NONE;
        int yards = GAIN_FROM;
        for (int u = 0; u < shop.yards.size(); u++) {
            int round = ways.mostRound(shop, u, 0);
            if (round > yards) {
                user = u;
                yards = round;
            }
        }
        if (user == NONE) return NONE;
        return what == 0 ? user : yards;
    }

    public int leastDues() {
        int dues = 0;
        for (int u = 0; u < shop.yards.size(); u++) {
            // Who gains nothing by some dues gains nothing by higher ones, so dues never go down again.
            while (dues <= MOST_DUES && ways.mostRound(shop, u, dues) > GAIN_FROM) dues++;
        }
        return dues <= MOST_DUES ? dues : NONE;
    }

    public int cutting(int n) {
        if (n != NONE && !shop.wantUse.has(n)) return UNKNOWN;
        cutter.search(shop, now.lengths);
        if (!cutter.found) return NONE;
        return n == NONE ? cutter.inchesLeft() : cutter.best.at(n);
    }

    public int honest(int n, int what) {
        if (n < 1 || n > MOST_INCHES || what < 0 || what > 1) return OUTSIDE;
        int use = NONE;
        int over = NONE;
        for (int u = 0; u < shop.yards.size(); u++) {
            int rest = remainder(n, shop.yards.at(u));
            if (use == NONE || rest < over || rest == over && shop.yards.at(u) > shop.yards.at(use)) {
                use = u;
                over = rest;
            }
        }
        return what == 0 ? use : over;
    }

    public int remnants() {
        int set = 0;
        for (int p = 0; p < shop.pieceUse.size(); p++) {
            if (now.wholeYards(shop, p) == 0) set |= 1 << p;
        }
        return set;
    }

    public int kept(int n, int q) {
        if (n < 1 || n > MOST_PEOPLE || q < 0 || q > HUNDRED) return OUTSIDE;
        countDeaths(n, q);
        int together = 0;
        for (int died = 0; died < n; died++) {
            together += odds.at(died);
            if (together >= SURE_ENOUGH) return died;
        }
        return n;
    }

    // ---- what was left

    public int left(int n, int c, int l) {
        if (n < 1 || n > MOST_BOUGHT || c < 0 || c > MOST_INCHES || l < 0 || l > MOST_LENGTH) return OUTSIDE;
        if (leftTold.isFull()) return FULL;
        leftTold.add(n, c, l);
        return leftTold.size();
    }

    public int boughtFor() {
        int set = 0;
        for (int u = 0; u < shop.yards.size(); u++) {
            if (leftTold.fits(shop.yards.at(u))) set |= 1 << u;
        }
        return set;
    }

    public int ask() {
        int fitting = boughtFor();
        if (Integer.bitCount(fitting) < 2) return NONE;
        // n YARDS of two USES are unlike for every n or for none, so no n above 1 is the least.
        return allUnlike(fitting) ? 1 : NONE;
    }

    public int write(int p, int length) {
        if (!shop.pieceUse.has(p)) return UNKNOWN;
        if (length < 0 || length > MOST_LENGTH) return OUTSIDE;
        if (book.isFull()) return FULL;
        book.add(p, length);
        return book.size();
    }

    public int tear() {
        int had = leftTold.size() + book.size();
        leftTold.clear();
        book.clear();
        return had;
    }

    public int judge() {
        return book.firstWrong(now.lengths);
    }

    // ---- draws, images

    public int seed(int v) {
        if (v < 0) return OUTSIDE;
        int was = drawn;
        drawn = v;
        return was;
    }

    public int keep(int i) {
        if (i < 0 || i >= MOST_IMAGES) return UNKNOWN;
        now.save(images, i * IMAGE_CELLS);
        images.put(i * IMAGE_CELLS + CLOTH_CELLS, drawn);
        imagesKept |= 1 << i;
        past.clear();
        return 1;
    }

    public int goBack(int i) {
        if (i < 0 || i >= MOST_IMAGES) return UNKNOWN;
        if ((imagesKept >> i & 1) == 0) return NOT;
        now.load(images, i * IMAGE_CELLS);
        drawn = images.at(i * IMAGE_CELLS + CLOTH_CELLS);
        past.clear();
        return 1;
    }

    // ---- what the calls share

    private int draw(int n) {
        drawn = (int) ((drawn * 1103515245L + 12345L) & 0x7fffffffL);
        return remainder(drawn / 65536, n);
    }

    private int allTables() {
        return (1 << shop.tableFrom.size()) - 1;
    }

    private boolean allUnlike(int uses) {
        for (int u = 0; u < shop.yards.size(); u++) {
            for (int v = 0; v < u; v++) {
                boolean both = (uses >> u & 1) == 1 && (uses >> v & 1) == 1;
                if (both && shop.yards.at(u) == shop.yards.at(v)) return false;
            }
        }
        return true;
    }

    /** Fills the odds: parts of a MILLION by how many of n died. */
    private void countDeaths(int n, int q) {
        odds.fill(0);
        odds.put(0, MILLION);
        for (int person = 0; person < n; person++) {
            // From the most deaths down, so that nobody dies twice.
            for (int died = person; died >= 0; died--) {
                int oneMore = odds.at(died) * q / HUNDRED;
                odds.put(died, odds.at(died) - oneMore);
                odds.put(died + 1, odds.at(died + 1) + oneMore);
            }
        }
    }

    private static int quotient(int number, int by) {
        return by == 0 ? 0 : number / by;
    }

    private static int remainder(int number, int by) {
        return by == 0 ? 0 : number % by;
    }

    /** A row of whole numbers of a fixed room: beyond it nothing is put and 0 is read. */
    private static final class Row {
        private final int[] cells;
        private int count = 0;

        Row(int room) {
            cells = new int[room < 0 ? 0 : room];
        }

        int size() {
            return count;
        }

        boolean isFull() {
            return count >= cells.length;
        }

        /** Whether the i-th has been added. */
        boolean has(int i) {
            return i >= 0 && i < count;
        }

        int at(int i) {
            return i >= 0 && i < cells.length ? cells[i] : 0;
        }

        void put(int i, int value) {
            if (i >= 0 && i < cells.length) cells[i] = value;
        }

        void add(int value) {
            if (isFull()) return;
            put(count, value);
            count++;
        }

        void clear() {
            count = 0;
        }

        void fill(int value) {
            for (int i = 0; i < cells.length; i++) cells[i] = value;
        }
    }

    /** What a text told: USES, TABLES, PIECES as they were bought, WANTS. */
    private static final class Shop {
        boolean open = false;
        int dues = 0;
        final Row yards = new Row(MOST_EACH);
        final Row tableFrom = new Row(MOST_TABLES);
        final Row tableTo = new Row(MOST_TABLES);
        final Row tableGiven = new Row(MOST_TABLES);
        final Row tableGot = new Row(MOST_TABLES);
        final Row pieceUse = new Row(MOST_EACH);
        final Row pieceYards = new Row(MOST_EACH);
        final Row wantUse = new Row(MOST_EACH);
        final Row wantYards = new Row(MOST_EACH);

        void clear() {
            open = false;
            dues = 0;
            yards.clear();
            tableFrom.clear();
            tableTo.clear();
            tableGiven.clear();
            tableGot.clear();
            pieceUse.clear();
            pieceYards.clear();
            wantUse.clear();
            wantYards.clear();
        }

        boolean hasTable(int a, int b) {
            for (int t = 0; t < tableFrom.size(); t++) {
                if (tableFrom.at(t) == a && tableTo.at(t) == b) return true;
            }
            return false;
        }

        /** Whole YARDS that these become by a TABLE, before any dues. */
        int turned(int t, int ofA) {
            return quotient(ofA * tableGot.at(t), tableGiven.at(t));
        }

        int inchesWanted(int n) {
            return wantYards.at(n) * yards.at(wantUse.at(n));
        }
    }

    /** Keeps THE TEXT and reads it into a shop, up to the first FAULT. */
    private static final class Reader {
        private static final int MISPLACED = 1, BAD_NUMBER = 2, TOO_MANY = 3, BAD_TABLE = 4, MOST_FIGURES = 3;

        final Row text = new Row(MOST_LETTERS);
        int faultPlace = NONE;
        private int faultNumber = 0;
        private int place = 0;
        private int numberPlace = 0;

        /** The number of the FAULT, 0 for none; THE TEXT is empty then. */
        int read(Shop into) {
            into.clear();
            faultPlace = NONE;
            faultNumber = 0;
            place = 0;
            skipBlanks();
            for (int clause = 0; clause < MOST_LETTERS && place < text.size() && faultNumber == 0; clause++) {
                readClause(into);
                skipBlanks();
            }
            text.clear();
            return faultNumber;
        }

        private void readClause(Shop into) {
            int word = text.at(place);
            blame(faultOfWord(into, word), place);
            place++;
            switch (word) {
                case 'd': readDues(into); break;
                case 'u': readUse(into); break;
                case 't': readTable(into); break;
                case 'p': readAmount(into, into.pieceUse, into.pieceYards, MOST_BOUGHT); break;
                case 'n': readAmount(into, into.wantUse, into.wantYards, MOST_WANTED); break;
                default: break;
            }
        }

        private static int faultOfWord(Shop into, int word) {
            switch (word) {
                case 'd': return into.open ? TOO_MANY : 0;
                case 'u': return faultOfRoom(into, into.yards);
                case 't': return faultOfRoom(into, into.tableFrom);
                case 'p': return faultOfRoom(into, into.pieceUse);
                case 'n': return faultOfRoom(into, into.wantUse);
                default: return MISPLACED;
            }
        }

        private static int faultOfRoom(Shop into, Row row) {
            if (!into.open) return MISPLACED;
            return row.isFull() ? TOO_MANY : 0;
        }

        private void readDues(Shop into) {
            into.dues = readNumber(0, MOST_DUES);
            readEnd();
            into.open = true;
        }

        private void readUse(Shop into) {
            int inches = readNumber(1, MOST_YARD);
            readEnd();
            into.yards.add(inches);
        }

        private void readTable(Shop into) {
            int lastUse = into.yards.size() - 1;
            int a = readNumber(0, lastUse);
            int b = readNumber(0, lastUse);
            if (a == b || into.hasTable(a, b)) blame(BAD_TABLE, numberPlace);
            int given = readNumber(1, MOST_RATE);
            int got = readNumber(1, MOST_RATE);
            readEnd();
            into.tableFrom.add(a);
            into.tableTo.add(b);
            into.tableGiven.add(given);
            into.tableGot.add(got);
        }

        private void readAmount(Shop into, Row uses, Row yards, int most) {
            int use = readNumber(0, into.yards.size() - 1);
            int amount = readNumber(1, most);
            readEnd();
            uses.add(use);
            yards.add(amount);
        }

        private int readNumber(int low, int high) {
            skipBlanks();
            int first = place;
            int value = 0;
            while (place < text.size() && isFigure(text.at(place))) {
                // A longer one is a FAULT whatever it says; left alone it cannot run over.
                if (place - first < MOST_FIGURES) value = value * 10 + text.at(place) - '0';
                place++;
            }
            if (place == first) blame(MISPLACED, first);
            if (place - first > MOST_FIGURES || value < low || value > high) blame(BAD_NUMBER, first);
            numberPlace = first;
            return value;
        }

        private void readEnd() {
            skipBlanks();
            if (place >= text.size() || text.at(place) != ';') blame(MISPLACED, place);
            place++;
        }

        private void skipBlanks() {
            while (place < text.size() && text.at(place) == ' ') place++;
        }

        private static boolean isFigure(int letter) {
            return letter >= '0' && letter <= '9';
        }

        /** The first blame stays: letters are read in order, and what is read behind it counts for nothing. */
        private void blame(int number, int at) {
            if (number == 0 || faultNumber != 0) return;
            faultNumber = number;
            faultPlace = at;
        }
    }

    /** PIECES as they are now, PAID and WASTE. */
    private static final class Cloth {
        final Row lengths = new Row(MOST_EACH);
        final Row declared = new Row(MOST_EACH);
        int paid = 0;
        int waste = 0;

        void begin(Shop shop) {
            lengths.clear();
            declared.clear();
            for (int p = 0; p < shop.pieceUse.size(); p++) {
                int use = shop.pieceUse.at(p);
                lengths.add(shop.pieceYards.at(p) * shop.yards.at(use));
                declared.add(use);
            }
            paid = 0;
            waste = 0;
        }

        int lengthOfAll() {
            int sum = 0;
            for (int p = 0; p < lengths.size(); p++) sum += lengths.at(p);
            return sum;
        }

        int wholeYards(Shop shop, int p) {
            return quotient(lengths.at(p), shop.yards.at(declared.at(p)));
        }

        void turnPiece(Shop shop, int p, int t) {
            int use = shop.tableTo.at(t);
            int yards = shop.turned(t, wholeYards(shop, p));
            yards -= yards * shop.dues / HUNDRED;
            int length = Math.min(yards * shop.yards.at(use), MOST_LENGTH);
            int less = lengths.at(p) - length;
            if (less > 0) waste = Math.min(waste + less, MOST_COUNTED);
            lengths.put(p, length);
            declared.put(p, use);
        }

        void changePiece(Shop shop, int p, int use) {
            int before = wholeYards(shop, p);
            declared.put(p, use);
            // A shorter YARD makes no fewer YARDS; by a longer one nothing is due.
            int more = wholeYards(shop, p) - before;
            if (more > 0) paid = Math.min(paid + more * shop.dues, MOST_COUNTED);
        }

        void save(Row store, int from) {
            for (int p = 0; p < MOST_EACH; p++) {
                store.put(from + p, lengths.at(p));
                store.put(from + MOST_EACH + p, declared.at(p));
            }
            store.put(from + 2 * MOST_EACH, paid);
            store.put(from + 2 * MOST_EACH + 1, waste);
        }

        void load(Row store, int from) {
            for (int p = 0; p < MOST_EACH; p++) {
                lengths.put(p, store.at(from + p));
                declared.put(p, store.at(from + MOST_EACH + p));
            }
            paid = store.at(from + 2 * MOST_EACH);
            waste = store.at(from + 2 * MOST_EACH + 1);
        }
    }

    /** What can be undone: a ring, in which the latest lie over the oldest. */
    private static final class Past {
        private final Row store = new Row(MOST_UNDONE * CLOTH_CELLS);
        private int next = 0;
        private int count = 0;

        int size() {
            return count;
        }

        void clear() {
            count = 0;
        }

        void push(Cloth cloth) {
            cloth.save(store, next * CLOTH_CELLS);
            next = (next + 1) % MOST_UNDONE;
            count = Math.min(count + 1, MOST_UNDONE);
        }

        void pop(Cloth cloth) {
            if (count == 0) return;
            next = (next + MOST_UNDONE - 1) % MOST_UNDONE;
            count--;
            cloth.load(store, next * CLOTH_CELLS);
        }
    }

    /** What is told LEFT. */
    private static final class Left {
        private final Row bought = new Row(MOST_LEFT);
        private final Row cutOff = new Row(MOST_LEFT);
        private final Row rest = new Row(MOST_LEFT);

        int size() {
            return bought.size();
        }

        boolean isFull() {
            return bought.isFull();
        }

        void add(int yards, int inchesCut, int inchesLeft) {
            bought.add(yards);
            cutOff.add(inchesCut);
            rest.add(inchesLeft);
        }

        void clear() {
            bought.clear();
            cutOff.clear();
            rest.clear();
        }

        /** Whether all of it is so by a YARD of these inches. */
        boolean fits(int yard) {
            for (int i = 0; i < bought.size(); i++) {
                if (bought.at(i) * yard - cutOff.at(i) != rest.at(i)) return false;
            }
            return true;
        }
    }

    /** THE BOOK. */
    private static final class Book {
        private final Row pieces = new Row(MOST_ENTRIES);
        private final Row entries = new Row(MOST_ENTRIES);

        int size() {
            return pieces.size();
        }

        boolean isFull() {
            return pieces.isFull();
        }

        void add(int p, int length) {
            pieces.add(p);
            entries.add(length);
        }

        void clear() {
            pieces.clear();
            entries.clear();
        }

        int firstWrong(Row lengths) {
            for (int i = 0; i < pieces.size(); i++) {
                if (lengths.at(pieces.at(i)) != entries.at(i)) return i;
            }
            return NONE;
        }
    }

    /**
     * Heights of USES, as fractions over that of a first USE of those that TABLES join.
     * At most five TABLES join two of six USES, so neither part goes above 20 to the 5.
     */
    private static final class Heights {
        private final Row above = new Row(MOST_EACH);
        private final Row below = new Row(MOST_EACH);

        /** Whether there are heights that all TABLES of the set fit. */
        boolean fit(Shop shop, int set) {
            below.fill(0);
            for (int u = 0; u < shop.yards.size(); u++) {
                if (!known(u)) {
                    note(u, 1, 1);
                    spread(shop, set);
                }
            }
            for (int t = 0; t < shop.tableFrom.size(); t++) {
                if ((set >> t & 1) == 1 && !fitsTable(shop, t)) return false;
            }
            return true;
        }

        /** Gives a height to every USE that TABLES of the set join to one that has a height. */
        private void spread(Shop shop, int set) {
            boolean more = true;
            for (int round = 0; round < MOST_EACH && more; round++) {
                more = false;
                for (int t = 0; t < shop.tableFrom.size(); t++) {
                    if ((set >> t & 1) == 1 && reach(shop, t)) more = true;
                }
            }
        }

        /** Whether a USE has got its height by this TABLE. */
        private boolean reach(Shop shop, int t) {
            int a = shop.tableFrom.at(t);
            int b = shop.tableTo.at(t);
            if (known(a) == known(b)) return false;
            if (known(a)) note(b, above.at(a) * shop.tableGiven.at(t), below.at(a) * shop.tableGot.at(t));
            else note(a, above.at(b) * shop.tableGot.at(t), below.at(b) * shop.tableGiven.at(t));
            return true;
        }

        private boolean fitsTable(Shop shop, int t) {
            int a = shop.tableFrom.at(t);
            int b = shop.tableTo.at(t);
            long ofA = (long) shop.tableGiven.at(t) * above.at(a) * below.at(b);
            long ofB = (long) shop.tableGot.at(t) * above.at(b) * below.at(a);
            return ofA == ofB;
        }

        private boolean known(int u) {
            return below.at(u) != 0;
        }

        private void note(int u, int over, int under) {
            above.put(u, over);
            below.put(u, under);
        }
    }

    /** What YARDS become by turning on and on. */
    private static final class Ways {
        final Row best = new Row(MOST_TURNS);
        int bestYards = NONE;
        int bestTurns = NONE;
        private final Row way = new Row(MOST_TURNS);
        private final Row yardsOf = new Row(MOST_EACH);
        private final Row nextYardsOf = new Row(MOST_EACH);

        void search(Shop shop, int a, int b, int yards) {
            bestYards = NONE;
            bestTurns = NONE;
            walk(this, shop, a, b, yards, 0);
        }

        /** Ways of one number of turns come in the order of their TABLES, so the first of like ones stays. */
        private static void walk(Ways ways, Shop shop, int use, int goal, int yards, int turns) {
            if (use == goal) ways.note(yards, turns);
            if (turns >= MOST_TURNS) return;
            for (int t = 0; t < shop.tableFrom.size(); t++) {
                if (shop.tableFrom.at(t) == use) {
                    ways.way.put(turns, t);
                    walk(ways, shop, shop.tableTo.at(t), goal, shop.turned(t, yards), turns + 1);
                }
            }
        }

        private void note(int yards, int turns) {
            if (yards < bestYards || yards == bestYards && turns >= bestTurns) return;
            bestYards = yards;
            bestTurns = turns;
            for (int i = 0; i < turns; i++) best.put(i, way.at(i));
        }

        /** The most that 20 YARDS of a USE become of itself by 1 to 4 turns, dues taken behind each; NONE. */
        int mostRound(Shop shop, int use, int dues) {
            yardsOf.fill(NONE);
            yardsOf.put(use, GAIN_FROM);
            int most = NONE;
            for (int turns = 0; turns < MOST_TURNS; turns++) {
                // More YARDS never turn into fewer, so the most of each USE is enough to go on from.
                turnAll(shop, dues);
                most = Math.max(most, yardsOf.at(use));
            }
            return most;
        }

        private void turnAll(Shop shop, int dues) {
            nextYardsOf.fill(NONE);
            for (int t = 0; t < shop.tableFrom.size(); t++) {
                int ofA = yardsOf.at(shop.tableFrom.at(t));
                if (ofA != NONE) {
                    int ofB = shop.turned(t, ofA);
                    ofB -= ofB * dues / HUNDRED;
                    int b = shop.tableTo.at(t);
                    nextYardsOf.put(b, Math.max(nextYardsOf.at(b), ofB));
                }
            }
            for (int u = 0; u < MOST_EACH; u++) yardsOf.put(u, nextYardsOf.at(u));
        }
    }

    /** Which PIECE each WANT is cut from, so that least is left of those that are touched. */
    private static final class Cutter {
        final Row best = new Row(MOST_EACH);
        boolean found = false;
        private int bestTouched = 0;
        private int wantedInAll = 0;
        private final Row chosen = new Row(MOST_EACH);
        private final Row rest = new Row(MOST_EACH);

        void search(Shop shop, Row lengths) {
            found = false;
            wantedInAll = 0;
            for (int p = 0; p < lengths.size(); p++) rest.put(p, lengths.at(p));
            for (int n = 0; n < shop.wantUse.size(); n++) wantedInAll += shop.inchesWanted(n);
            place(this, shop, lengths, 0, 0);
        }

        int inchesLeft() {
            return bestTouched - wantedInAll;
        }

        /** Touched is the LENGTH of all PIECES that WANTS ahead of n are cut from. */
        private static void place(Cutter cutter, Shop shop, Row lengths, int n, int touched) {
            // What is touched only grows, and of like ones the first found is the one that is due.
            if (cutter.found && touched >= cutter.bestTouched) return;
            if (n >= shop.wantUse.size()) {
                cutter.note(n, touched);
                return;
            }
            int inches = shop.inchesWanted(n);
            for (int p = 0; p < lengths.size(); p++) {
                int had = cutter.rest.at(p);
                if (had >= inches) {
                    int more = had == lengths.at(p) ? had : 0;
                    cutter.chosen.put(n, p);
                    cutter.rest.put(p, had - inches);
                    place(cutter, shop, lengths, n + 1, touched + more);
                    cutter.rest.put(p, had);
                }
            }
        }

        private void note(int wants, int touched) {
            found = true;
            bestTouched = touched;
            for (int n = 0; n < wants; n++) best.put(n, chosen.at(n));
        }
    }
}
