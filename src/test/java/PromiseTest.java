/** Each promise of the document: ordinary inputs, the edges that it names, wrong inputs. */
public final class PromiseTest {
    private static int asked = 0;
    private static int wrong = 0;
    private static String promise = "";

    private static void due(String call, int got, int want) {
        asked++;
        if (got != want) {
            wrong++;
            System.out.println(promise + ": " + call + " answered " + got + ", due is " + want);
        }
    }

    private static void put(StaleBounds x, String text) {
        for (int i = 0; i < text.length(); i++) {
            x.type(text.charAt(i));
        }
    }

    private static StaleBounds told(String text) {
        StaleBounds x = new StaleBounds();
        put(x, text);
        if (x.tells() < 0) {
            wrong++;
            System.out.println(promise + ": could not tell " + text);
        }
        return x;
    }

    private static void tellsDue(String text, int want) {
        StaleBounds x = new StaleBounds();
        put(x, text);
        due("tells() of '" + text + "'", x.tells(), want);
        due("letters behind tells() of '" + text + "'", x.count(6), want < 0 ? text.length() : 0);
        due("undos behind tells() of '" + text + "'", x.count(7), want < 0 ? 0 : 1);
    }

    /** Whatever is refused changes nothing: neither what is known nor what can be undone. */
    private static void refused(StaleBounds x, String call, int got, int want, String before) {
        due(call, got, want);
        asked++;
        if (!before.equals(picture(x))) {
            wrong++;
            System.out.println(promise + ": " + call + " was refused, but changed something");
        }
    }

    private static String picture(StaleBounds x) {
        return ledger(x) + x.count(5) + ' ' + x.count(6) + ' ' + x.count(7) + ' ' + x.which() + ' ' + x.ask();
    }

    /** All that part 1 of the document tells but the text. */
    private static String ledger(StaleBounds x) {
        StringBuilder all = new StringBuilder();
        for (int what = 0; what < 5; what++) {
            all.append(x.count(what)).append(' ');
        }
        for (int a = 0; a < x.count(0); a++) {
            for (int what = 0; what < 10; what++) {
                all.append(x.copy(a, what)).append(' ');
            }
            for (int c = 0; c < x.count(0); c++) {
                for (int what = 0; what < 4; what++) {
                    all.append(x.pair(a, c, what)).append(' ');
                }
            }
        }
        for (int w = 0; w < x.count(2); w++) {
            for (int what = 0; what < 5; what++) {
                all.append(x.write(w, what)).append(' ');
            }
        }
        return all.toString();
    }

    private static void sameDue(String call, String got, String want) {
        asked++;
        if (!got.equals(want)) {
            wrong++;
            System.out.println(promise + ": behind " + call + " all is " + got + ", due is " + want);
        }
    }

    public static void main(String[] args) {
        newObject();
        type();
        clear();
        tells();
        tellsFaults();
        accepts();
        passes();
        pulls();
        reads();
        moves();
        evens();
        bounds();
        undo();
        copy();
        pair();
        write();
        costs();
        sees();
        forget();
        which();
        ask();
        keepAndBack();
        count();
        System.out.println(asked + " answers asked, " + wrong + " wrong");
        if (wrong != 0) {
            System.exit(1);
        }
    }

    private static void newObject() {
        promise = "promise 1";
        due("BAD", StaleBounds.BAD, -1);
        due("STATE", StaleBounds.STATE, -2);
        due("FULL", StaleBounds.FULL, -3);
        due("NONE", StaleBounds.NONE, -9);
        StaleBounds x = new StaleBounds();
        int[] counts = {3, 0, 0, 0, 7, 0, 0, 0};
        for (int what = 0; what < counts.length; what++) {
            due("count(" + what + ")", x.count(what), counts[what]);
        }
        int[] first = {99, 9, 99, 0, 0, 0, 0, 0, 0};
        for (int c = 0; c < 3; c++) {
            for (int what = 0; what < first.length; what++) {
                due("copy(" + c + ", " + what + ")", x.copy(c, what), first[what]);
            }
        }
        int[][] budgets = {{-1, 50, 49}, {50, -1, 49}, {50, 49, -1}};
        for (int a = 0; a < 3; a++) {
            for (int c = 0; c < 3; c++) {
                due("pair(" + a + ", " + c + ", 0)", x.pair(a, c, 0), a == c ? -1 : 0);
                due("pair(" + a + ", " + c + ", 1)", x.pair(a, c, 1), budgets[a][c]);
            }
        }
        due("undo()", x.undo(), StaleBounds.STATE);
        due("back(0)", x.back(0), StaleBounds.STATE);
        due("back(1)", x.back(1), StaleBounds.STATE);
        due("tells()", x.tells(), 0);
    }

    private static void type() {
        promise = "promise 2";
        StaleBounds x = new StaleBounds();
        due("type(-1)", x.type(-1), StaleBounds.BAD);
        due("type(256)", x.type(256), StaleBounds.BAD);
        due("type(most)", x.type(Integer.MAX_VALUE), StaleBounds.BAD);
        due("type(least)", x.type(Integer.MIN_VALUE), StaleBounds.BAD);
        due("type(0)", x.type(0), 1);
        due("type(255)", x.type(255), 2);
        for (int i = 3; i <= 80; i++) {
            due("type(32)", x.type(32), i);
        }
        due("type(32), the 81st", x.type(32), StaleBounds.FULL);
        due("type(256), full", x.type(256), StaleBounds.BAD);
        due("count(6)", x.count(6), 80);
        due("count(7)", x.count(7), 0);
    }

    private static void clear() {
        promise = "promise 3";
        StaleBounds x = new StaleBounds();
        due("clear()", x.clear(), 0);
        put(x, "bounds 0 1");
        due("clear()", x.clear(), 10);
        due("clear()", x.clear(), 0);
        put(x, "copies 2;");
        due("tells()", x.tells(), 1);
        due("count(0)", x.count(0), 2);
    }

    private static void tells() {
        promise = "promise 4";
        tellsDue("", 0);
        tellsDue("   ", 0);
        tellsDue("copies 2;", 1);
        tellsDue("copies4;", 1);
        tellsDue("  copies  3  ;  bounds 2 0 0 0 ;  ", 2);
        tellsDue("bounds0 99 9 99;bounds1 0 0 0;bounds2 10 5 10;", 3);
        tellsDue("copies 4;bounds 3 1 2 3;", 2);
        StaleBounds x = told("copies 4;bounds 1 5 6 7;bounds 1 8 4 2;bounds 3 0 0 0;");
        due("count(0)", x.count(0), 4);
        int[][] rows = {{99, 9, 99}, {8, 4, 2}, {99, 9, 99}, {0, 0, 0}};
        for (int c = 0; c < 4; c++) {
            for (int what = 0; what < 3; what++) {
                due("copy(" + c + ", " + what + ")", x.copy(c, what), rows[c][what]);
            }
        }
        due("pair(1, 0, 1)", x.pair(1, 0, 1), 3);
        due("pair(1, 2, 1)", x.pair(1, 2, 1), 3);
        due("pair(1, 3, 1)", x.pair(1, 3, 1), 2);
        due("pair(0, 3, 1)", x.pair(0, 3, 1), 33);
        tellsAllAnew();
        StaleBounds two = told("copies 2;bounds 1 7 1 1;");
        due("pair(1, 0, 1) of two", two.pair(1, 0, 1), 7);
        due("pair(0, 1, 1) of two", two.pair(0, 1, 1), 99);
        due("copy(2, 0) of two", two.copy(2, 0), StaleBounds.BAD);
    }

    private static void tellsAllAnew() {
        StaleBounds x = told("copies 4;bounds 0 1 2 3;");
        x.accepts(1, 9);
        x.passes(7);
        x.pulls(2, 1);
        x.sees(0, 3);
        x.keep(0);
        due("tells() of nothing", x.tells(), 0);
        sameDue("tells() of nothing", ledger(x), ledger(new StaleBounds()));
        due("count(5)", x.count(5), 1);
        due("count(7)", x.count(7), 5);
        due("back(0)", x.back(0), 7);
        due("tells() of nothing", x.tells(), 0);
        x.undo();
        due("count(0), undone", x.count(0), 4);
        due("count(2), undone", x.count(2), 1);
    }

    private static void tellsFaults() {
        promise = "promise 4, faults";
        tellsDue(";", -10);
        tellsDue("  ;", -12);
        tellsDue("copies", -16);
        tellsDue("copies  ", -18);
        tellsDue("copies 2", -18);
        tellsDue("copies 2  ", -20);
        tellsDue("copies 1;", -17);
        tellsDue("copies 5", -17);
        tellsDue("copies ;", -17);
        tellsDue("copies 2 3;", -19);
        tellsDue("copies 2;;", -19);
        tellsDue("copies 2;copies 2;", -19);
        tellsDue("copies 02;", -17);
        tellsDue("copies bounds;", -17);
        tellsDue("copiesbounds;", -10);
        tellsDue("bounds 0 1 1 1;copies 2;", -25);
        tellsDue("copies 2;bounds 2 1 1 1;", -26);
        tellsDue("bounds 3 1 1 1;", -17);
        tellsDue("bounds 0 100 1 1;", -19);
        tellsDue("bounds 0 00 1 1;", -19);
        tellsDue("bounds 0 01 1 1;", -19);
        tellsDue("bounds 0 4294967297 1 1;", -19);
        tellsDue("bounds 0 1 10 1;", -21);
        tellsDue("bounds 0 1 1 100;", -23);
        tellsDue("bounds 0 1 1;", -22);
        tellsDue("bounds 0 1 1 1 1;", -25);
        tellsDue("bounds 0 1 1 1", -24);
        tellsDue("bounds 0 1 1 ", -23);
        tellsDue("bounds 0 1 1 1 bounds 0 1 1 1;", -25);
        tellsDue("bound 0 1 1 1;", -10);
        tellsDue("copiesa 2;", -10);
        tellsDue("copiesz 2;", -10);
        tellsDue("zopies 2;", -10);
        tellsDue("copies`2;", -16);
        tellsDue("copies{2;", -16);
        tellsDue("copies/2;", -16);
        tellsDue("copies:2;", -16);
        tellsDue("boundss 0 1 1 1;", -10);
        tellsDue("bounds 0 1 1 1;x", -25);
        tellsDue("Copies 2;", -10);
        tellsDue("copieS 2;", -10);
        tellsDue("bounds\t0 1 1 1;", -16);
        tellsDue("bounds 0,1,1,1;", -18);
        tellsDue("bounds -1 1 1 1;", -17);
        tellsDue("7", -10);
        tellsDue("copies 2;" + (char) 255, -19);
        tellsDue("copies 2;" + (char) 0, -19);
        tellsDue("bounds0 1 1 1;bounds1 1 1 1;bounds2 1 1 1;bounds0 1 1 1;bounds0 1 1 1;bounds0 1 ", -90);
        StaleBounds x = told("copies 2;bounds 0 4 4 4;");
        x.accepts(0, 1);
        put(x, "copies 4;bounds 1 2 3 4;bounds 4 1 1 1;");
        String before = picture(x);
        refused(x, "tells()", x.tells(), -41, before);
    }

    private static void accepts() {
        promise = "promise 5";
        StaleBounds x = told("bounds 0 7 9 50;bounds 1 9 1 4;bounds 2 0 0 99;");
        String before = picture(x);
        refused(x, "accepts(-1, 1)", x.accepts(-1, 1), StaleBounds.BAD, before);
        refused(x, "accepts(3, 1)", x.accepts(3, 1), StaleBounds.BAD, before);
        refused(x, "accepts(0, 0)", x.accepts(0, 0), StaleBounds.BAD, before);
        refused(x, "accepts(0, 10)", x.accepts(0, 10), StaleBounds.BAD, before);
        x.passes(3);
        due("accepts(0, 5)", x.accepts(0, 5), 1);
        due("copy(0, 3)", x.copy(0, 3), 1);
        due("copy(0, 4)", x.copy(0, 4), 1);
        due("copy(1, 3)", x.copy(1, 3), 0);
        due("copy(2, 3)", x.copy(2, 3), 1);
        due("copy(2, 4)", x.copy(2, 4), 0);
        due("pair(2, 0, 0)", x.pair(2, 0, 0), 3);
        due("pair(1, 0, 0)", x.pair(1, 0, 0), 0);
        due("pair(1, 0, 3)", x.pair(1, 0, 3), 0);
        due("accepts(0, 1)", x.accepts(0, 1), 2);
        due("copy(1, 3)", x.copy(1, 3), 3);
        due("pair(1, 0, 0)", x.pair(1, 0, 0), 3);
        due("pair(1, 0, 2)", x.pair(1, 0, 2), 0);
        due("accepts(1, 4)", x.accepts(1, 4), 1);
        due("copy(0, 3)", x.copy(0, 3), 3);
        due("accepts(1, 1)", x.accepts(1, 1), 2);
        due("copy(0, 3)", x.copy(0, 3), 15);
        due("copy(0, 4): fast by a push to 0", x.copy(0, 4), 15);
        due("copy(1, 4)", x.copy(1, 4), 0);
        due("copy(2, 4)", x.copy(2, 4), 0);
        due("pair(0, 1, 0)", x.pair(0, 1, 0), 3);
        acceptsOnlyOwn();
        acceptsFull();
    }

    /** A push brings what the one who pushes accepted, not all that it knows. */
    private static void acceptsOnlyOwn() {
        StaleBounds x = told("bounds 2 0 9 99;");
        x.accepts(0, 2);
        x.undo();
        x.bounds(2, 99, 9, 99);
        x.accepts(0, 2);
        x.pulls(1, 0);
        x.bounds(2, 20, 9, 99);
        x.accepts(1, 9);
        due("accepts(1, 2)", x.accepts(1, 2), 1);
        due("copy(2, 3)", x.copy(2, 3), 6);
        due("copy(1, 3)", x.copy(1, 3), 7);
        due("copy(1, 4)", x.copy(1, 4), 1);
    }

    private static void acceptsFull() {
        StaleBounds x = new StaleBounds();
        for (int i = 0; i < 24; i++) {
            x.accepts(i % 3, 1 + i % 9);
        }
        due("count(2)", x.count(2), 24);
        String before = picture(x);
        refused(x, "accepts(0, 1), full", x.accepts(0, 1), StaleBounds.FULL, before);
        refused(x, "accepts(0, 0), full", x.accepts(0, 0), StaleBounds.BAD, before);
        due("write(23, 0)", x.write(23, 0), 2);
        due("copy(2, 3)", x.copy(2, 3) >> 23, 1);
    }

    private static void passes() {
        promise = "promise 6";
        StaleBounds x = new StaleBounds();
        due("passes(0)", x.passes(0), StaleBounds.BAD);
        due("passes(-1)", x.passes(-1), StaleBounds.BAD);
        due("passes(100)", x.passes(100), StaleBounds.BAD);
        due("passes(most)", x.passes(Integer.MAX_VALUE), StaleBounds.BAD);
        due("passes(1)", x.passes(1), 1);
        for (int i = 1; i <= 10; i++) {
            due("passes(99)", x.passes(99), 1 + 99 * i);
        }
        String before = picture(x);
        refused(x, "passes(9)", x.passes(9), StaleBounds.STATE, before);
        refused(x, "passes(100)", x.passes(100), StaleBounds.BAD, before);
        due("passes(8)", x.passes(8), 999);
        due("passes(1)", x.passes(1), StaleBounds.STATE);
        due("count(1)", x.count(1), 999);
    }

    private static void pulls() {
        promise = "promise 7";
        StaleBounds x = told("copies 4;");
        String before = picture(x);
        refused(x, "pulls(0, 0)", x.pulls(0, 0), StaleBounds.BAD, before);
        refused(x, "pulls(4, 0)", x.pulls(4, 0), StaleBounds.BAD, before);
        refused(x, "pulls(0, 4)", x.pulls(0, 4), StaleBounds.BAD, before);
        refused(x, "pulls(-1, 0)", x.pulls(-1, 0), StaleBounds.BAD, before);
        refused(x, "pulls(0, -1)", x.pulls(0, -1), StaleBounds.BAD, before);
        x.accepts(1, 3);
        x.accepts(2, 4);
        x.accepts(0, 5);
        x.passes(5);
        due("pulls(2, 1)", x.pulls(2, 1), 1);
        due("copy(2, 3)", x.copy(2, 3), 3);
        due("copy(2, 4)", x.copy(2, 4), 0);
        due("pair(2, 1, 0)", x.pair(2, 1, 0), 5);
        due("pair(1, 2, 0)", x.pair(1, 2, 0), 0);
        x.passes(5);
        due("pulls(0, 2)", x.pulls(0, 2), 2);
        due("copy(0, 4)", x.copy(0, 4), 7);
        due("pair(0, 2, 0)", x.pair(0, 2, 0), 10);
        due("pair(0, 1, 0)", x.pair(0, 1, 0), 5);
        due("pair(0, 3, 0)", x.pair(0, 3, 0), 0);
        x.passes(5);
        due("pulls(3, 0)", x.pulls(3, 0), 3);
        due("copy(3, 4)", x.copy(3, 4), 7);
        due("pulls(1, 3)", x.pulls(1, 3), 2);
        due("copy(1, 4): fast for the one it is from", x.copy(1, 4), 7);
        due("pair(1, 0, 0)", x.pair(1, 0, 0), 15);
        due("pair(1, 2, 0)", x.pair(1, 2, 0), 10);
        due("pulls(1, 2)", x.pulls(1, 2), 0);
        due("pair(1, 2, 0)", x.pair(1, 2, 0), 15);
        due("pulls(2, 3)", x.pulls(2, 3), 1);
        due("pair(2, 1, 0): a later one stays", x.pair(2, 1, 0), 5);
        due("pair(2, 0, 0)", x.pair(2, 0, 0), 15);
        due("pulls(3, 2)", x.pulls(3, 2), 0);
        due("pair(3, 0, 0)", x.pair(3, 0, 0), 15);
        due("count(7): one that changes nothing can be undone", x.count(7), 8);
    }

    private static void reads() {
        promise = "promise 8";
        StaleBounds x = told("copies 4;bounds 3 99 1 4;bounds 0 99 0 2;");
        String before = picture(x);
        refused(x, "reads(-1)", x.reads(-1), StaleBounds.BAD, before);
        refused(x, "reads(4)", x.reads(4), StaleBounds.BAD, before);
        due("reads(3)", x.reads(3), 0);
        due("count(7)", x.count(7), 2);
        x.passes(4);
        due("reads(3): heard 4 ago, age 4", x.reads(3), 0);
        x.accepts(1, 1);
        x.accepts(2, 2);
        x.pulls(2, 1);
        x.pulls(1, 2);
        x.passes(1);
        due("reads(3): not heard of 0, then all of 2 by 1", x.reads(3), 4);
        due("copy(3, 3)", x.copy(3, 3), 3);
        due("copy(3, 4)", x.copy(3, 4), 3);
        due("copy(0, 3)", x.copy(0, 3), 3);
        due("copy(1, 4)", x.copy(1, 4), 0);
        due("pair(0, 3, 0)", x.pair(0, 3, 0), 5);
        due("pair(3, 2, 0)", x.pair(3, 2, 0), 4);
        readsByZero();
        readsByOrder();
    }

    private static void readsByZero() {
        StaleBounds x = told("bounds 0 99 0 0;");
        x.accepts(1, 1);
        due("reads(0)", x.reads(0), 0);
        x.passes(1);
        due("reads(0)", x.reads(0), 2);
        due("copy(0, 4)", x.copy(0, 4), 1);
        due("reads(0)", x.reads(0), 0);
    }

    private static void readsByOrder() {
        StaleBounds x = told("bounds 2 99 2 99;");
        x.accepts(2, 1);
        x.accepts(2, 1);
        x.accepts(0, 1);
        due("reads(2): 2 that are not fast, order 2", x.reads(2), 0);
        x.accepts(2, 1);
        due("reads(2)", x.reads(2), 2);
        due("copy(2, 3)", x.copy(2, 3), 15);
        due("copy(2, 4)", x.copy(2, 4), 15);
        due("copy(0, 4)", x.copy(0, 4), 15);
        due("copy(1, 3)", x.copy(1, 3), 0);
        StaleBounds chain = told("bounds 2 99 9 5;");
        chain.passes(6);
        chain.pulls(0, 1);
        due("reads(2): heard of 1 by 0 meanwhile", chain.reads(2), 1);
        due("pair(2, 1, 0)", chain.pair(2, 1, 0), 6);
    }

    private static void moves() {
        promise = "promise 9";
        StaleBounds x = told("copies 4;bounds 3 20 2 9;");
        String before = picture(x);
        int[][] bad = {{3, 0, 0, 1}, {0, 0, 1, 1}, {0, 1, 0, 1}, {4, 0, 1, 1}, {0, 4, 1, 1}, {0, 1, 4, 1},
            {-1, 0, 1, 1}, {0, -1, 1, 1}, {0, 1, -1, 1}, {3, 0, 1, 0}, {3, 0, 1, 100}, {3, 0, 1, -1}};
        for (int[] b : bad) {
            refused(x, "moves() with a wrong number", x.moves(b[0], b[1], b[2], b[3]), StaleBounds.BAD, before);
        }
        refused(x, "moves(3, 0, 1, 8)", x.moves(3, 0, 1, 8), StaleBounds.STATE, before);
        due("moves(3, 0, 1, 6)", x.moves(3, 0, 1, 6), 1);
        due("pair(3, 0, 1)", x.pair(3, 0, 1), 1);
        due("pair(3, 1, 1)", x.pair(3, 1, 1), 13);
        due("pair(3, 2, 1)", x.pair(3, 2, 1), 6);
        due("pair(0, 3, 1)", x.pair(0, 3, 1), 33);
        x.accepts(1, 9);
        due("moves(3, 1, 0, 5): 4 are left", x.moves(3, 1, 0, 5), StaleBounds.STATE);
        due("moves(3, 1, 0, 4)", x.moves(3, 1, 0, 4), 9);
        due("pair(3, 1, 3)", x.pair(3, 1, 3), 0);
        StaleBounds all = told("copies 2;");
        due("moves(0, 1, 2, 1) of two", all.moves(0, 1, 2, 1), StaleBounds.BAD);
        StaleBounds most = new StaleBounds();
        most.moves(0, 1, 2, 50);
        due("moves(0, 2, 1, 99)", most.moves(0, 2, 1, 99), 0);
    }

    private static void evens() {
        promise = "promise 10";
        StaleBounds x = told("copies 4;bounds 1 20 2 9;");
        String before = picture(x);
        refused(x, "evens(4)", x.evens(4), StaleBounds.BAD, before);
        refused(x, "evens(-1)", x.evens(-1), StaleBounds.BAD, before);
        x.moves(1, 0, 2, 7);
        x.accepts(2, 9);
        due("evens(1)", x.evens(1), 11);
        due("pair(1, 0, 1)", x.pair(1, 0, 1), 4);
        due("pair(1, 2, 1)", x.pair(1, 2, 1), 13);
        due("pair(1, 3, 1)", x.pair(1, 3, 1), 3);
        due("pair(1, 2, 3)", x.pair(1, 2, 3), 4);
        due("pair(0, 1, 1)", x.pair(0, 1, 1), 33);
        due("evens(1), again", x.evens(1), 11);
        due("count(7)", x.count(7), 5);
        StaleBounds zero = told("bounds 0 0 0 0;");
        due("evens(0)", zero.evens(0), 0);
    }

    private static void bounds() {
        promise = "promise 11";
        StaleBounds x = told("copies 4;bounds 2 20 3 9;");
        String before = picture(x);
        int[][] bad = {{-1, 0, 0, 0}, {4, 0, 0, 0}, {0, -1, 0, 0}, {0, 100, 0, 0}, {0, 0, -1, 0},
            {0, 0, 10, 0}, {0, 0, 0, -1}, {0, 0, 0, 100}};
        for (int[] b : bad) {
            refused(x, "bounds() with a wrong number", x.bounds(b[0], b[1], b[2], b[3]), StaleBounds.BAD, before);
        }
        refused(x, "bounds(2, 20, 3, 9)", x.bounds(2, 20, 3, 9), StaleBounds.STATE, before);
        x.moves(2, 0, 1, 7);
        due("bounds(2, 20, 3, 8)", x.bounds(2, 20, 3, 8), 0);
        due("pair(2, 0, 1): number stays, so do the budgets", x.pair(2, 0, 1), 0);
        due("bounds(2, 20, 2, 8)", x.bounds(2, 20, 2, 8), 0);
        due("copy(2, 1)", x.copy(2, 1), 2);
        due("copy(2, 2)", x.copy(2, 2), 8);
        x.accepts(1, 9);
        x.accepts(3, 4);
        x.passes(6);
        due("bounds(2, 11, 2, 8)", x.bounds(2, 11, 2, 8), 2);
        due("copy(2, 0)", x.copy(2, 0), 11);
        due("copy(2, 3)", x.copy(2, 3), 3);
        due("copy(2, 4)", x.copy(2, 4), 0);
        due("pair(2, 0, 1)", x.pair(2, 0, 1), 4);
        due("pair(2, 1, 1)", x.pair(2, 1, 1), 4);
        due("pair(2, 3, 1)", x.pair(2, 3, 1), 3);
        due("pair(2, 1, 0)", x.pair(2, 1, 0), 6);
        due("pair(2, 3, 0)", x.pair(2, 3, 0), 6);
        due("pair(2, 0, 0)", x.pair(2, 0, 0), 0);
        due("bounds(0, 12, 9, 99)", x.bounds(0, 12, 9, 99), 1);
        due("copy(0, 4)", x.copy(0, 4), 1);
        due("bounds(3, 0, 0, 0)", x.bounds(3, 0, 0, 0), 1);
        due("pair(3, 1, 3)", x.pair(3, 1, 3), 0);
        due("bounds(0, 99, 9, 99): less strict, too", x.bounds(0, 99, 9, 99), 0);
        due("pair(0, 1, 1)", x.pair(0, 1, 1), 33);
    }

    private static void undo() {
        promise = "promise 12";
        undoEach();
        undoOnlyEight();
    }

    private static void doOne(StaleBounds x, int call) {
        switch (call) {
            case 0: put(x, "copies 4;bounds 3 20 2 0;"); x.tells(); break;
            case 1: x.accepts(1, 7); break;
            case 2: x.passes(9); break;
            case 3: x.pulls(2, 1); break;
            case 4: x.moves(3, 0, 1, 2); break;
            case 5: x.evens(3); break;
            case 6: x.bounds(3, 4, 1, 0); break;
            default: x.reads(3); break;
        }
    }

    private static void undoEach() {
        StaleBounds x = new StaleBounds();
        String[] before = new String[8];
        for (int call = 0; call < 8; call++) {
            before[call] = ledger(x);
            doOne(x, call);
            due("count(7)", x.count(7), call + 1);
        }
        x.type(66);
        x.sees(1, 2);
        x.keep(0);
        for (int call = 7; call >= 0; call--) {
            due("undo()", x.undo(), call);
            due("count(5)", x.count(5), 1);
            due("count(6)", x.count(6), 1);
            sameDue("undo()", ledger(x), before[call]);
        }
        due("undo()", x.undo(), StaleBounds.STATE);
        due("back(0): an image is not undone", x.back(0), 9);
        due("count(0)", x.count(0), 4);
    }

    private static void undoOnlyEight() {
        StaleBounds x = new StaleBounds();
        for (int i = 0; i < 11; i++) {
            x.passes(1);
        }
        for (int i = 7; i >= 4; i--) {
            due("undo()", x.undo(), i);
        }
        due("count(1)", x.count(1), 7);
        x.accepts(0, 1);
        x.accepts(0, 10);
        x.copy(0, 8);
        for (int i = 4; i >= 0; i--) {
            due("undo()", x.undo(), i);
        }
        due("count(1)", x.count(1), 3);
        due("undo()", x.undo(), StaleBounds.STATE);
        due("count(1)", x.count(1), 3);
    }

    private static void copy() {
        promise = "promise 13";
        StaleBounds x = told("copies 4;bounds 1 30 4 7;bounds 2 60 0 0;");
        x.accepts(1, 9);
        x.accepts(0, 3);
        x.accepts(1, 2);
        x.pulls(1, 0);
        x.passes(8);
        String before = picture(x);
        int[] one = {30, 4, 7, 7, 2, 14, 0, 2, 3, 9};
        int[] two = {60, 0, 0, 0, 0, 0, 14, 0, 5, 10};
        for (int what = 0; what < 10; what++) {
            due("copy(1, " + what + ")", x.copy(1, what), one[what]);
            due("copy(2, " + what + ")", x.copy(2, what), two[what]);
        }
        due("copy(0, 9)", x.copy(0, 9), 10);
        due("copy(3, 8)", x.copy(3, 8), 0);
        due("copy(1, 10)", x.copy(1, 10), StaleBounds.BAD);
        due("copy(1, -1)", x.copy(1, -1), StaleBounds.BAD);
        due("copy(4, 0)", x.copy(4, 0), StaleBounds.BAD);
        due("copy(-1, 0)", x.copy(-1, 0), StaleBounds.BAD);
        sameDue("copy()", picture(x), before);
        for (int c = 0; c < 4; c++) {
            int would = x.copy(c, 8);
            due("reads(" + c + ")", x.reads(c), would);
            x.undo();
        }
    }

    private static void pair() {
        promise = "promise 14";
        StaleBounds x = told("bounds 0 20 4 7;bounds 1 7 9 9;");
        x.accepts(2, 3);
        x.passes(2);
        x.pulls(1, 2);
        x.accepts(2, 2);
        int[] zeroTwo = {0, 10, 5, 5};
        int[] oneTwo = {2, 3, 2, 1};
        int[] twoOne = {0, 49, 0, 49};
        for (int what = 0; what < 4; what++) {
            due("pair(0, 2, " + what + ")", x.pair(0, 2, what), zeroTwo[what]);
            due("pair(1, 2, " + what + ")", x.pair(1, 2, what), oneTwo[what]);
            due("pair(2, 1, " + what + ")", x.pair(2, 1, what), twoOne[what]);
        }
        due("pair(1, 1, 0)", x.pair(1, 1, 0), StaleBounds.BAD);
        due("pair(3, 1, 0)", x.pair(3, 1, 0), StaleBounds.BAD);
        due("pair(1, 3, 0)", x.pair(1, 3, 0), StaleBounds.BAD);
        due("pair(-1, 1, 0)", x.pair(-1, 1, 0), StaleBounds.BAD);
        due("pair(1, -1, 0)", x.pair(1, -1, 0), StaleBounds.BAD);
        due("pair(1, 2, 4)", x.pair(1, 2, 4), StaleBounds.BAD);
        due("pair(1, 2, -1)", x.pair(1, 2, -1), StaleBounds.BAD);
    }

    private static void write() {
        promise = "promise 15";
        StaleBounds x = new StaleBounds();
        due("write(0, 0)", x.write(0, 0), StaleBounds.BAD);
        x.passes(4);
        x.accepts(2, 6);
        x.passes(1);
        x.accepts(0, 8);
        x.pulls(1, 2);
        x.pulls(1, 0);
        int[][] rows = {{2, 6, 4, 6, 0}, {0, 8, 5, 3, 3}};
        for (int w = 0; w < 2; w++) {
            for (int what = 0; what < 5; what++) {
                due("write(" + w + ", " + what + ")", x.write(w, what), rows[w][what]);
            }
        }
        due("write(0, 5)", x.write(0, 5), StaleBounds.BAD);
        due("write(0, -1)", x.write(0, -1), StaleBounds.BAD);
        due("write(2, 0)", x.write(2, 0), StaleBounds.BAD);
        due("write(-1, 0)", x.write(-1, 0), StaleBounds.BAD);
        due("write(most, 0)", x.write(Integer.MAX_VALUE, 0), StaleBounds.BAD);
        x.undo();
        x.undo();
        x.undo();
        due("write(1, 0), undone", x.write(1, 0), StaleBounds.BAD);
    }

    private static void costs() {
        promise = "promise 16";
        StaleBounds x = told("copies 4;bounds 1 9 9 9;bounds 2 30 9 9;bounds 3 60 9 9;");
        int[][] due = {{1, 0}, {3, 0}, {4, 1}, {10, 1}, {11, 2}, {20, 2}, {21, 3}, {999, 3}};
        for (int[] d : due) {
            due("costs(0, " + d[0] + ")", x.costs(0, d[0]), d[1]);
        }
        x.accepts(0, 3);
        due("costs(0, 1)", x.costs(0, 1), 1);
        due("costs(0, 7)", x.costs(0, 7), 1);
        due("costs(0, 8)", x.costs(0, 8), 2);
        due("costs(0, 0)", x.costs(0, 0), StaleBounds.BAD);
        due("costs(0, 1000)", x.costs(0, 1000), StaleBounds.BAD);
        due("costs(4, 1)", x.costs(4, 1), StaleBounds.BAD);
        due("costs(-1, 1)", x.costs(-1, 1), StaleBounds.BAD);
        due("accepts(0, 8)", x.accepts(0, 8), 2);
        StaleBounds full = new StaleBounds();
        for (int i = 0; i < 24; i++) {
            full.accepts(0, 1);
        }
        due("costs(0, 25), full", full.costs(0, 25), 0);
        due("costs(0, 26), full", full.costs(0, 26), 0);
        due("costs(0, 27), full", full.costs(0, 27), 2);
        due("costs(2, 49), full", full.costs(2, 49), 0);
        due("costs(2, 50), full", full.costs(2, 50), 2);
    }

    private static void sees() {
        promise = "promise 17";
        StaleBounds x = new StaleBounds();
        due("sees(-1, 0)", x.sees(-1, 0), StaleBounds.BAD);
        due("sees(3, 0)", x.sees(3, 0), StaleBounds.BAD);
        due("sees(0, -1)", x.sees(0, -1), StaleBounds.BAD);
        due("sees(0, 1000)", x.sees(0, 1000), StaleBounds.BAD);
        due("count(5)", x.count(5), 0);
        for (int i = 1; i <= 6; i++) {
            due("sees()", x.sees(i % 3, i == 6 ? 999 : 0), i);
        }
        due("sees(0, 0), full", x.sees(0, 0), StaleBounds.FULL);
        due("sees(3, 0), full", x.sees(3, 0), StaleBounds.BAD);
        due("count(5)", x.count(5), 6);
        due("count(7)", x.count(7), 0);
        due("which()", x.which(), 0);
    }

    private static void forget() {
        promise = "promise 18";
        StaleBounds x = new StaleBounds();
        due("forget()", x.forget(), 0);
        x.sees(0, 4);
        x.sees(1, 4);
        due("forget()", x.forget(), 2);
        due("count(5)", x.count(5), 0);
        due("which()", x.which(), 7);
        due("forget()", x.forget(), 0);
        due("sees(0, 0)", x.sees(0, 0), 1);
    }

    private static void which() {
        promise = "promise 19";
        StaleBounds x = told("copies 4;bounds 3 99 0 0;bounds 1 99 1 99;");
        due("which()", x.which(), 15);
        x.accepts(1, 4);
        x.accepts(3, 4);
        x.accepts(0, 4);
        x.sees(0, 4);
        due("which()", x.which(), 11);
        x.sees(1, 1);
        due("which()", x.which(), 10);
        x.sees(2, 2);
        due("which()", x.which(), 8);
        x.passes(1);
        due("which(): as it is now", x.which(), 0);
        x.forget();
        x.sees(2, 3);
        due("which(): fast by 0, 1, 2, so no more", x.which(), 0);
        x.sees(2, 3);
        x.forget();
        x.sees(2, 5);
        due("which(): 3 by age, 2 by order", x.which(), 8);
        x.forget();
        x.sees(1, 0);
        due("which()", x.which(), 5);
        x.tells();
        due("which(): all anew, seen stays", x.which(), 7);
    }

    private static void ask() {
        promise = "promise 20";
        StaleBounds x = told("copies 4;bounds 1 99 9 0;");
        due("ask(): all alike in each", x.ask(), 0);
        x.passes(1);
        due("ask(): 1 is alone in 2", x.ask(), 2);
        x.accepts(0, 4);
        due("ask(): 3 are alike in 0 and in 2, 4 in 1", x.ask(), 0);
        x.pulls(2, 0);
        x.accepts(3, 4);
        due("ask(): 3 alike in 0, 1 and 2", x.ask(), 0);
        x.pulls(1, 3);
        due("ask(): 0, 2 and 1, 3 are alike in 1", x.ask(), 1);
        x.sees(1, 1);
        due("which()", x.which(), 10);
        due("ask(): 1 and 3 unlike in 2 alone", x.ask(), 2);
        x.sees(2, 0);
        due("which()", x.which(), 8);
        due("ask(): one can be", x.ask(), StaleBounds.NONE);
        x.sees(0, 999);
        due("which()", x.which(), 0);
        due("ask(): none can be", x.ask(), StaleBounds.NONE);
    }

    private static void keepAndBack() {
        promise = "promise 21 and 22";
        StaleBounds x = told("copies 4;bounds 2 10 3 3;");
        due("keep(-1)", x.keep(-1), StaleBounds.BAD);
        due("keep(2)", x.keep(2), StaleBounds.BAD);
        due("back(-1)", x.back(-1), StaleBounds.BAD);
        due("back(2)", x.back(2), StaleBounds.BAD);
        x.passes(6);
        x.accepts(1, 5);
        x.pulls(3, 1);
        x.moves(2, 0, 1, 1);
        due("keep(1)", x.keep(1), 6);
        due("count(7): keep() is not undone", x.count(7), 5);
        String all = picture(x);
        refused(x, "back(0)", x.back(0), StaleBounds.STATE, all);
        String before = ledger(x);
        x.undo();
        x.undo();
        x.passes(3);
        due("keep(0)", x.keep(0), 9);
        x.type(59);
        x.sees(1, 4);
        due("back(1)", x.back(1), 6);
        due("count(5): seen stays", x.count(5), 1);
        due("count(6): the text stays", x.count(6), 1);
        due("count(7)", x.count(7), 0);
        due("undo()", x.undo(), StaleBounds.STATE);
        x.clear();
        x.forget();
        x.tells();
        due("count(0)", x.count(0), 3);
        due("back(1), again", x.back(1), 6);
        sameDue("back(1)", ledger(x), before);
        due("back(0)", x.back(0), 9);
        due("copy(3, 3)", x.copy(3, 3), 0);
        due("pair(2, 0, 1)", x.pair(2, 0, 1), 4);
        x.accepts(0, 9);
        due("undo(): of what came behind back()", x.undo(), 0);
        due("count(2)", x.count(2), 1);
        x.keep(1);
        x.accepts(0, 1);
        due("back(1): the later image", x.back(1), 9);
    }

    private static void count() {
        promise = "promise 23";
        StaleBounds x = told("copies 4;bounds 2 0 3 3;");
        due("count(4): no writes", x.count(4), 15);
        x.passes(9);
        x.accepts(1, 5);
        x.accepts(2, 9);
        x.accepts(1, 1);
        x.sees(0, 1);
        x.sees(0, 1);
        put(x, "abc");
        int[] want = {4, 9, 3, 15, 4, 2, 3, 5};
        for (int what = 0; what < want.length; what++) {
            due("count(" + what + ")", x.count(what), want[what]);
        }
        due("count(8)", x.count(8), StaleBounds.BAD);
        due("count(-1)", x.count(-1), StaleBounds.BAD);
    }
}
