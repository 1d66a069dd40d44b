/** The edges of promises 13 to 23, and of the terms that they lean on: what is asked, which copy, images. */
public final class AskedEdgeTest {
    private static final Script script = new Script();
    private static final String[] BUSY = {"say:copies 4;bounds 1 20 2 3;bounds 3 9 0 0;", "tells = 3", "accepts 1 2", "keep 1",
        "passes 5", "accepts 0 4", "pulls 2 1", "moves 1 0 3 2", "accepts 3 1", "sees 0 2", "say:copies 2;"};

    public static void main(String[] args) {
        questionsChangeNothing();
        copyBad();
        copyOfWrites();
        copyReads();
        copySpare();
        pairBad();
        pairNumbers();
        writeBad();
        writeNumbers();
        costsEdges();
        costsWhenFull();
        seesEdges();
        seesFull();
        forget();
        whichAtFirst();
        whichExactly();
        whichWhenAsked();
        askNone();
        askLeast();
        askOfTheseAlone();
        keepEdges();
        keepsAll();
        keepsTheLastWrite();
        backEdges();
        backAndUndo();
        countEdges();
        lastCall();
        script.end();
    }

    private static void told(String text, String... rows) {
        script.run(Script.join(new String[] {"say:" + text, "tells"}, rows));
    }

    private static void refused(String text, String[] ahead, String... calls) {
        script.unchangedEach(Script.join(new String[] {"say:" + text, "tells"}, ahead), calls);
    }

    private static void questionsChangeNothing() {
        script.sentence("(Nothing is changed.)");
        for (int what = 0; what < 10; what++) {
            script.unchangedEach(BUSY, "copy 0 " + what, "copy 3 " + what, "pair 0 3 " + what, "write 0 " + what,
                    "write 2 " + what, "count " + what);
        }
        script.unchangedEach(BUSY, "costs 0 1 = 0", "costs 3 999 = 3", "costs 1 9", "which", "ask");
    }

    private static void copyBad() {
        script.sentence("8 how often it would be PULLED by a READ NOW, 9 SPARE. BAD.");
        script.unchangedEach(BUSY, "copy -1 0 = BAD", "copy 4 0 = BAD", "copy 0 -1 = BAD", "copy 0 10 = BAD",
                "copy 3 10 = BAD", "copy 4 8 = BAD", "copy MIN 8 = BAD", "copy MAX 9 = BAD", "copy 0 MIN = BAD",
                "copy 0 MAX = BAD");
        script.run("copy 2 0 = 99", "copy 3 0 = BAD", "copy 3 9 = BAD", "copy 2 9 = 49", "copy 2 10 = BAD");
        told("copies 2;", "copy 1 9 = 99", "copy 2 0 = BAD", "copy 2 8 = BAD");
        told("copies 4;", "copy 3 9 = 33", "copy 4 9 = BAD");
        script.run("say:copies 4;", "tells", "copy 3 0 = 99", "undo", "copy 3 0 = BAD");
    }

    private static void copyOfWrites() {
        script.sentence("SUM of a COPY: WEIGHTS of WRITES that it KNOWS. LACK: of those that it does not.");
        script.run("copy 0 5 = 0", "copy 0 6 = 0", "23 x accepts 0 9", "copy 0 5 = 207", "copy 0 6 = 0", "copy 1 5 = 162",
                "copy 1 6 = 45", "accepts 0 9 = 2", "copy 0 5 = 216", "copy 1 5 = 216", "copy 1 6 = 0", "count 3 = 216");
        script.run("24 x accepts 1 1", "copy 0 5 = 0", "copy 0 6 = 24", "copy 1 5 = 24", "copy 1 6 = 0",
                "copy 1 3 = 16777215", "copy 1 4 = 0", "copy 0 3 = 0");
        script.sentence("7 how many it KNOWS that are not FAST");
        script.run("copy 1 7 = 0", "24 x accepts 1 1", "copy 1 7 = 24", "copy 0 7 = 0", "pulls 0 1", "copy 0 7 = 0",
                "copy 1 7 = 24", "pulls 1 0", "copy 1 7 = 0", "copy 1 4 = 16777215");
    }

    private static void copyReads() {
        script.sentence("8 how often it would be PULLED by a READ NOW");
        told("copies 4;bounds 3 99 0 0;bounds 0 99 0 0;", "copy 3 8 = 0", "accepts 3 1", "copy 3 8 = 2", "copy 0 8 = 0",
                "passes 1", "copy 3 8 = 5", "copy 0 8 = 3", "copy 1 8 = 0", "reads 3 = 5", "copy 3 8 = 0");
        told("bounds 1 99 2 3;", "passes 3", "copy 1 8 = 0", "2 x accepts 1 1", "copy 1 8 = 0", "passes 1", "copy 1 8 = 2",
                "accepts 1 1", "copy 1 8 = 4", "undo", "copy 1 8 = 2", "pair 1 0 0 = 0", "copy 0 3 = 0");
        told("bounds 1 99 9 3;", "passes 1", "pulls 0 2", "passes 3", "copy 1 8 = 1", "passes 1", "copy 1 8 = 2");
    }

    private static void copySpare() {
        script.sentence("SPARE of c: the least LEFT of it for any other COPY.");
        told("copies 4;bounds 0 12 9 9;bounds 2 9 9 9;bounds 3 6 9 9;", "copy 0 9 = 2", "copy 1 9 = 2", "copy 2 9 = 2",
                "copy 3 9 = 3", "accepts 3 3 = 0", "copy 3 9 = 0", "costs 3 1 = 1", "accepts 0 2", "copy 0 9 = 0",
                "accepts 2 1", "copy 2 9 = 1");
        told("copies 2;", "copy 0 9 = 99", "copy 1 9 = 99", "accepts 0 9", "copy 0 9 = 90", "copy 1 9 = 99");
        told("copies 2;bounds 1 0 9 9;", "copy 0 9 = 0", "copy 1 9 = 99");
        told("bounds 0 4 9 9;bounds 1 6 9 9;bounds 2 8 9 9;", "copy 0 9 = 3", "copy 1 9 = 2", "copy 2 9 = 2");
        script.run("moves 0 1 2 50", "copy 1 9 = 0", "copy 2 9 = 49", "moves 1 0 2 50", "copy 2 9 = 99", "copy 0 9 = 0");
    }

    private static void pairBad() {
        script.sentence("of that one for it: 1 BUDGET, 2 OWED, 3 LEFT. BAD (one and the same, too).");
        script.unchangedEach(BUSY, "pair 0 0 0 = BAD", "pair 3 3 1 = BAD", "pair -1 0 0 = BAD", "pair 0 -1 0 = BAD",
                "pair 4 0 0 = BAD", "pair 0 4 0 = BAD", "pair 0 1 -1 = BAD", "pair 0 1 4 = BAD", "pair MIN 0 0 = BAD",
                "pair 0 MAX 0 = BAD", "pair 0 1 MIN = BAD", "pair 0 1 MAX = BAD", "pair 4 4 0 = BAD");
        script.run("pair 2 0 3 = 50", "pair 3 0 3 = BAD", "pair 0 3 3 = BAD", "pair 2 2 3 = BAD");
        told("copies 2;", "pair 1 0 3 = 99", "pair 0 1 3 = 99", "pair 2 0 3 = BAD", "pair 0 2 3 = BAD", "pair 1 1 0 = BAD");
        told("copies 4;", "pair 3 0 3 = 33", "pair 0 3 3 = 33", "pair 4 0 3 = BAD", "pair 0 4 3 = BAD");
    }

    private static void pairNumbers() {
        script.sentence("Of a COPY and another one: 0 up to when it has HEARD of that");
        script.run("pair 1 2 0 = 0", "10 x passes 99", "passes 9 = 999", "pulls 1 2", "pair 1 2 0 = 999", "pair 2 1 0 = 0",
                "pair 1 0 0 = 0");
        script.sentence("LEFT: BUDGET less OWED.");
        told("copies 2;", "pair 1 0 1 = 99", "pair 1 0 2 = 0", "pair 1 0 3 = 99", "11 x accepts 0 9", "pair 1 0 1 = 99",
                "pair 1 0 2 = 99", "pair 1 0 3 = 0", "pair 0 1 2 = 0", "pulls 1 0 = 11", "pair 1 0 2 = 0",
                "pair 1 0 3 = 99");
        told("bounds 1 7 9 9;", "pair 1 0 1 = 4", "pair 1 2 1 = 3", "accepts 0 4", "pair 1 0 2 = 4", "pair 1 0 3 = 0",
                "pair 0 1 2 = 0", "pair 1 2 2 = 0", "pulls 2 0", "pair 1 2 2 = 0");
    }

    private static void writeBad() {
        script.sentence("3 COPIES that KNOW it (bits), 4 for which it is FAST (bits). BAD.");
        script.unchangedEach(BUSY, "write -1 0 = BAD", "write 3 0 = BAD", "write 2 -1 = BAD", "write 2 5 = BAD",
                "write MIN 0 = BAD", "write MAX 0 = BAD", "write 0 MIN = BAD", "write 0 MAX = BAD", "write 24 0 = BAD",
                "write 32 0 = BAD");
        script.run("write 0 0 = BAD", "write -1 0 = BAD", "accepts 2 3", "write 0 0 = 2", "write 1 0 = BAD", "accepts 1 3",
                "write 1 0 = 1", "write 2 0 = BAD", "undo", "write 1 0 = BAD", "write 0 0 = 2", "tells", "write 0 0 = BAD");
        script.run("24 x accepts 1 1", "write 23 0 = 1", "write 24 0 = BAD", "write 0 4 = 0", "write 23 3 = 2",
                "write 23 5 = BAD");
    }

    private static void writeNumbers() {
        script.sentence("Of a WRITE: 0 by whom it was ACCEPTED, 1 WEIGHT, 2 TIME as it was");
        told("copies 4;", "accepts 3 1", "passes 99", "accepts 0 9", "write 0 0 = 3", "write 0 1 = 1", "write 0 2 = 0",
                "write 0 3 = 8", "write 0 4 = 0", "write 1 0 = 0", "write 1 1 = 9", "write 1 2 = 99", "write 1 3 = 1",
                "write 1 4 = 1", "pulls 0 3", "write 0 3 = 9", "write 0 4 = 1", "pulls 3 0", "write 0 4 = 9",
                "pulls 1 3", "pulls 2 3", "write 0 3 = 15", "write 0 4 = 15", "write 1 3 = 15", "write 1 2 = 99");
    }

    private static void costsEdges() {
        script.sentence("How many PUSHES there would be, were a WRITE of a WEIGHT (1 .. 999) ACCEPTED by a COPY NOW");
        script.unchangedEach(BUSY, "costs 0 0 = BAD", "costs 0 1000 = BAD", "costs 0 -1 = BAD", "costs -1 1 = BAD",
                "costs 4 1 = BAD", "costs MIN 1 = BAD", "costs MAX 1 = BAD", "costs 0 MIN = BAD", "costs 0 MAX = BAD");
        script.run("costs 0 1 = 0", "costs 0 50 = 0", "costs 0 51 = 2", "costs 0 999 = 2", "costs 1 49 = 0",
                "costs 1 50 = 1", "costs 1 51 = 2", "costs 2 49 = 0", "costs 2 50 = 2", "costs 3 1 = BAD");
        told("copies 2;", "costs 0 99 = 0", "costs 0 100 = 1", "costs 1 999 = 1", "costs 2 1 = BAD");
        told("copies 4;bounds 3 0 0 0;", "costs 3 33 = 0", "costs 3 34 = 3", "costs 0 1 = 1", "costs 0 33 = 1",
                "costs 0 34 = 3", "costs 4 1 = BAD");
        told("bounds 1 9 9 99;", "accepts 0 3", "costs 0 2 = 0", "costs 0 3 = 1", "accepts 0 3 = 1", "costs 0 5 = 0",
                "costs 0 6 = 1");
    }

    private static void costsWhenFull() {
        script.sentence("however many there are");
        String[] full = {"24 x accepts 0 1", "accepts 0 1 = FULL"};
        script.run(Script.join(full, "costs 0 1 = 0", "costs 0 26 = 0", "costs 0 27 = 2", "costs 2 49 = 0", "costs 2 50 = 2",
                "costs 0 999 = 2", "costs 0 0 = BAD", "costs 0 1000 = BAD", "costs 3 1 = BAD", "count 2 = 24"));
        script.unchangedEach(full, "costs 0 999 = 2", "costs 1 1 = 0");
    }

    private static void seesEdges() {
        script.sentence("SEEN (what 0 .. 2; n 0 .. 999): how much there is. BAD; FULL: 6.");
        script.run("sees 0 0 = 1", "sees 2 999 = 2", "sees 1 999 = 3", "count 5 = 3", "count 7 = 0");
        script.unchangedEach(BUSY, "sees -1 2 = BAD", "sees 3 2 = BAD", "sees 0 -1 = BAD", "sees 0 1000 = BAD",
                "sees 2 1000 = BAD", "sees MIN 2 = BAD", "sees MAX 2 = BAD", "sees 0 MIN = BAD", "sees 0 MAX = BAD");
        script.run("accepts 0 5", "sees 0 5", "passes 1", "undo", "undo", "count 5 = 1", "which = 0");
    }

    private static void seesFull() {
        script.sentence("SEEN (6 at most)");
        String[] six = {"accepts 1 5", "accepts 2 5", "5 x sees 0 5", "sees 1 1 = 6"};
        script.run(Script.join(six, "sees 0 5 = FULL", "count 5 = 6", "which = 6", "forget = 6", "sees 0 5 = 1"));
        script.unchangedEach(six, "sees 0 5 = FULL", "sees 0 0 = FULL", "sees 1 0 = FULL", "sees 2 999 = FULL",
                "sees 3 0 = BAD", "sees -1 0 = BAD", "sees 0 1000 = BAD", "sees 0 -1 = BAD");
        script.run("5 x sees 0 0", "count 5 = 5", "which = 7", "sees 0 1 = 6", "which = 0");
        script.run("sees 0 1", "5 x sees 0 0", "which = 0");
    }

    private static void forget() {
        script.sentence("Nothing is SEEN: how much was.");
        script.run("forget = 0", "sees 0 9", "which = 0", "forget = 1", "forget = 0", "which = 7", "count 5 = 0");
        script.run("6 x sees 1 4", "forget = 6", "count 5 = 0", "which = 7", "6 x sees 0 0", "count 5 = 6", "which = 7",
                "sees 0 0 = FULL");
        script.unchanged(new String[] {"accepts 1 5", "keep 0", "say:copies 2;"}, "forget = 0");
        script.alike(Script.join(BUSY, "forget = 1", "sees 0 2 = 1"), BUSY);
    }

    private static void whichAtFirst() {
        script.sentence("WHICH: COPIES by which all that was SEEN is so (when it is asked), as bits");
        script.run("which = 7", "sees 0 0", "which = 7", "sees 1 0", "sees 2 0", "which = 7", "sees 0 1", "which = 0");
        told("copies 2;", "which = 3", "sees 0 0", "which = 3");
        told("copies 4;", "which = 15", "accepts 3 1", "sees 0 1", "which = 8", "sees 0 0", "which = 0");
    }

    private static void whichExactly() {
        script.sentence("its SUM is n (what = 0), it KNOWS n WRITES that are not FAST for it (1), a READ by it would be "
                + "with n times PULLED (2)");
        String[] ahead = {"say:copies 4;bounds 3 99 0 0;bounds 1 99 1 9;bounds 0 99 9 0;", "tells", "accepts 1 4",
            "2 x accepts 2 2", "accepts 3 5", "passes 1"};
        int[][] due = {{0, 3, 0}, {0, 4, 6}, {0, 5, 8}, {0, 6, 0}, {0, 0, 1}, {1, 0, 1}, {1, 1, 10}, {1, 2, 4}, {1, 3, 0},
            {2, 0, 6}, {2, 1, 0}, {2, 2, 0}, {2, 3, 1}, {2, 4, 0}, {2, 5, 8}, {2, 6, 0}, {0, 999, 0}};
        for (int[] d : due) {
            script.run(Script.join(ahead, "sees " + d[0] + " " + d[1], "which = " + d[2]));
        }
        script.run(Script.join(ahead, "sees 1 1", "which = 10", "sees 2 0", "which = 2", "sees 0 4", "which = 2", "sees 0 5",
                "which = 0"));
        script.run("24 x accepts 0 9", "sees 0 216", "which = 7", "accepts 0 1 = FULL", "which = 7");
    }

    private static void whichWhenAsked() {
        script.sentence("(when it is asked)");
        script.run("sees 0 5", "which = 0", "accepts 1 5", "which = 2", "pulls 2 1", "which = 6", "accepts 1 1", "which = 4",
                "undo", "which = 6", "keep 0", "tells", "which = 0", "back 0", "which = 6");
        told("bounds 1 99 9 3;", "sees 2 0", "passes 3", "which = 7", "passes 1", "which = 5", "reads 1", "which = 7");
        script.run("say:copies 4;", "sees 0 0", "tells", "which = 15", "undo", "which = 7");
    }

    private static void askNone() {
        script.sentence("NONE (one can be at most)");
        told("copies 2;", "ask = 0", "accepts 1 1", "ask = 0", "sees 0 1", "which = 2", "ask = NONE", "sees 0 0",
                "which = 0", "ask = NONE");
        script.run("accepts 1 1", "sees 0 0", "which = 5", "ask = 0", "accepts 2 1", "which = 1", "ask = NONE", "undo",
                "ask = 0", "forget", "ask = 0");
        script.unchanged(new String[] {"accepts 1 1", "sees 0 1", "which = 2"}, "ask = NONE");
        script.unchanged(new String[] {"accepts 1 1", "sees 0 7", "which = 0"}, "ask = NONE");
        script.unchanged(new String[] {"sees 0 7", "which = 0"}, "ask = NONE");
    }

    private static void askLeast() {
        script.sentence("ASK: the what (0 to 2) by which the greatest number of these that are alike in it is least, of "
                + "several the least");
        told("copies 4;", "ask = 0");
        told("copies 2;", "accepts 0 1", "accepts 1 1", "ask = 1");
        told("copies 2;bounds 1 99 9 0;", "passes 1", "ask = 2", "accepts 0 1", "accepts 1 1", "ask = 1", "undo",
                "ask = 0");
        told("bounds 1 99 9 0;bounds 2 99 9 0;", "passes 1", "pulls 2 0", "copy 0 8 = 0", "copy 1 8 = 2", "copy 2 8 = 1",
                "ask = 2", "accepts 1 1", "ask = 2", "accepts 2 2", "ask = 0");
        told("copies 4;", "accepts 0 1", "accepts 1 5", "accepts 2 5", "accepts 3 4", "accepts 3 1", "ask = 1",
                "accepts 0 4", "ask = 1", "accepts 1 1", "ask = 1", "accepts 2 2", "ask = 0");
        told("copies 4;bounds 3 99 9 0;", "accepts 0 1", "accepts 1 1", "passes 1", "ask = 0", "accepts 2 1", "ask = 1",
                "accepts 3 1", "ask = 1", "bounds 2 99 9 0", "ask = 2");
    }

    private static void askOfTheseAlone() {
        script.sentence("the greatest number of these that are alike in it is least");
        told("copies 4;", "accepts 0 5", "accepts 1 5", "accepts 2 7", "accepts 3 9", "ask = 0", "sees 0 5", "which = 3",
                "ask = 1", "sees 1 0", "which = 1", "ask = NONE");
        told("copies 4;", "accepts 1 5", "accepts 2 5", "accepts 3 4", "accepts 3 1", "ask = 1", "sees 0 5", "which = 14",
                "ask = 1", "sees 1 1", "which = 6", "ask = 0");
    }

    private static void keepEdges() {
        script.sentence("An IMAGE is kept: TIME. BAD.");
        script.run("keep 0 = 0", "keep 1 = 0", "passes 99", "keep 0 = 99", "count 7 = 1");
        script.unchangedEach(BUSY, "keep -1 = BAD", "keep 2 = BAD", "keep MIN = BAD", "keep MAX = BAD");
        script.run("keep 2 = BAD", "keep -1 = BAD", "back 0 = STATE", "back 1 = STATE");
        script.run("10 x passes 99", "passes 9", "keep 1 = 999", "tells", "back 1 = 999", "passes 1 = STATE");
        script.run("passes 1", "keep 0", "passes 2", "keep 0 = 3", "passes 4", "back 0 = 3", "back 1 = STATE");
        script.run("passes 1", "keep 0", "passes 2", "keep 1", "passes 4", "back 0 = 1", "back 1 = 3", "back 0 = 1");
    }

    private static void keepsAll() {
        script.sentence("IMAGES 0, 1 keep all that 1 tells but THE TEXT; nothing else (nothing can be UNDONE behind back())");
        String[] after = {"accepts 2 9", "pulls 0 3", "passes 7", "reads 3", "evens 1", "bounds 2 5 5 5", "bounds 0 1 1 1",
            "moves 3 0 1 1", "sees 1 1", "type 59"};
        for (String image : new String[] {"0", "1"}) {
            String[] kept = Script.join(Script.join(BUSY, "keep " + image + " = 5"), after);
            script.alikeLedgers(Script.join(kept, "back " + image + " = 5"), BUSY);
            script.alikeLedgers(Script.join(kept, "clear", "tells", "back " + image + " = 5"), BUSY);
            script.alikeLedgers(Script.join(kept, "8 x undo", "back " + image + " = 5"), BUSY);
            script.alikeLedgers(Script.join(kept, "back " + image, "accepts 0 9", "back " + image + " = 5"), BUSY);
            script.run(Script.join(kept, "back " + image, "count 5 = 2", "count 6 = 10", "count 7 = 0", "clear = 10"));
        }
        script.alike(Script.join(BUSY, "keep 0", "count 7 = 7"), BUSY);
    }

    /** The last WRITE that there may be is another one meanwhile. */
    private static void keepsTheLastWrite() {
        script.sentence("IMAGES 0, 1 keep all that 1 tells but THE TEXT");
        for (String image : new String[] {"0", "1"}) {
            script.run("23 x accepts 0 1", "passes 3", "accepts 1 5", "keep " + image + " = 3", "undo", "passes 4",
                    "accepts 2 7", "write 23 0 = 2", "write 23 1 = 7", "write 23 2 = 7", "back " + image + " = 3",
                    "write 23 0 = 1", "write 23 1 = 5", "write 23 2 = 3", "count 3 = 28", "copy 1 3 = 8388608",
                    "copy 2 3 = 0", "accepts 0 1 = FULL");
        }
    }

    private static void backEdges() {
        script.sentence("All of that becomes as an IMAGE has it: TIME. BAD; STATE: none was kept.");
        script.unchangedEach(BUSY, "back -1 = BAD", "back 2 = BAD", "back MIN = BAD", "back MAX = BAD", "back 0 = STATE");
        script.unchangedEach(new String[] {"passes 1", "keep 0", "passes 1"}, "back 1 = STATE", "back 2 = BAD");
        script.unchangedEach(new String[] {"passes 1"}, "back 0 = STATE", "back 1 = STATE", "back -1 = BAD", "back 2 = BAD");
        script.run("keep 0", "passes 5", "back 0 = 0", "count 1 = 0", "back 0 = 0", "undo = STATE");
        script.run("say:copies 4;", "tells", "accepts 3 1", "keep 1", "say:copies 2;", "tells", "copy 3 0 = BAD", "back 1 = 0",
                "copy 3 3 = 1", "count 0 = 4", "tells", "copy 3 3 = BAD");
    }

    private static void backAndUndo() {
        script.sentence("(nothing can be UNDONE behind back())");
        script.run("9 x passes 1", "keep 0", "count 7 = 8", "back 0 = 9", "count 7 = 0", "undo = STATE", "count 1 = 9");
        script.run("keep 0", "3 x passes 1", "back 0 = 0", "passes 5", "accepts 0 1", "count 7 = 2", "undo = 1", "undo = 0",
                "count 1 = 0", "undo = STATE", "back 0 = 0");
        script.run("keep 1", "3 x passes 1", "back 1 = 0", "9 x passes 2", "count 7 = 8", "8 x undo", "count 1 = 2",
                "undo = STATE");
        script.unchanged(new String[] {"5 x passes 1", "keep 0", "back 0"}, "undo = STATE");
        script.run("passes 1", "keep 0", "undo = 0", "back 0 = 1", "undo = STATE");
    }

    private static void countEdges() {
        script.sentence("0 N, 1 TIME, 2 WRITES, 3 WEIGHTS of all, 4 COPIES that KNOW all WRITES (bits), 5 SEEN, 6 letters of "
                + "THE TEXT, 7 how many may be UNDONE. BAD.");
        script.unchangedEach(BUSY, "count -1 = BAD", "count 8 = BAD", "count MIN = BAD", "count MAX = BAD");
        script.run("count -1 = BAD", "count 0 = 3", "count 7 = 0", "count 8 = BAD");
        script.run(Script.join(BUSY, "count 0 = 4", "count 1 = 5", "count 2 = 3", "count 3 = 7", "count 4 = 0", "count 5 = 1",
                "count 6 = 9", "count 7 = 7"));
        script.run("24 x accepts 0 9", "count 2 = 24", "count 3 = 216", "count 4 = 7", "count 7 = 8");
        script.run("24 x accepts 1 1", "count 3 = 24", "count 4 = 2", "pulls 0 1", "count 4 = 3", "pulls 2 0", "count 4 = 7");
        script.run("accepts 0 1", "count 4 = 1", "accepts 1 1", "count 4 = 0", "pulls 0 1", "count 4 = 1", "undo", "undo",
                "undo", "count 4 = 7");
        script.run("10 x passes 99", "passes 9", "count 1 = 999", "80 x type 0", "count 6 = 80", "6 x sees 0 0",
                "count 5 = 6");
    }

    private static void lastCall() {
        script.sentence("An object is used for at most 512 calls after it has been made");
        script.run("250 x passes 1", "199 x type 59", "50 x reads 1", "count 6 = 80", "count 7 = 8", "clear = 80", "8 x undo",
                "count 1 = 250", "accepts 2 1 = 0");
        script.run("511 x passes 1", "count 1 = 511");
        script.run("255 x accepts 0 1", "256 x undo", "count 2 = 16");
    }
}
