import java.util.ArrayList;
import java.util.List;

/** Whatever is refused changes nothing, and BAD goes ahead of STATE, STATE ahead of FULL: in states of all sizes. */
public final class RefusedEdgeTest {
    private static final Script script = new Script();

    // N stands for how many copies there are, L for the last of them.
    private static final String[] BAD_CALLS = {"type -1", "type 256", "accepts -1 1", "accepts N 1", "accepts 0 0",
        "accepts L 10", "passes 0", "passes 100", "pulls -1 L", "pulls N 0", "pulls 0 -1", "pulls 0 N", "pulls 0 0",
        "pulls L L", "reads -1", "reads N", "evens -1", "evens N", "moves 0 0 L 1", "moves L 0 L 1", "moves 0 L L 1",
        "moves -1 0 1 1", "moves N 0 1 1", "moves 0 -1 1 1", "moves 0 N 1 1", "moves 0 1 -1 1", "moves 0 1 N 1",
        "bounds -1 1 1 1", "bounds N 1 1 1", "bounds 0 -1 1 1", "bounds 0 100 1 1", "bounds 0 1 -1 1", "bounds 0 1 10 1",
        "bounds L 1 1 -1", "bounds L 1 1 100", "copy -1 0", "copy N 0", "copy 0 -1", "copy L 10", "pair -1 0 0",
        "pair N 0 0", "pair 0 -1 0", "pair 0 N 0", "pair 0 0 0", "pair L L 3", "pair 0 L -1", "pair 0 L 4", "write -1 0",
        "write 24 0", "write 0 -1", "write 0 5", "costs -1 1", "costs N 1", "costs 0 0", "costs L 1000", "sees -1 0",
        "sees 3 0", "sees 0 -1", "sees 2 1000", "keep -1", "keep 2", "back -1", "back 2", "count -1", "count 8"};

    public static void main(String[] args) {
        for (int n = 2; n <= 4; n++) {
            everyBadCall(n);
            lastCopies(n);
            everyState(n);
            everyQuestion(n);
            fullOfAll(n, busy(n));
            fullOfAll(n, unkept(n));
            fullAndFewUndone(n);
        }
        badMoves();
        badAheadOfState();
        badAheadOfFull();
        script.end();
    }

    /** All has something in it, and nothing is alike; no image is kept. What was seen is so of COPY 0. */
    private static String[] unkept(int n) {
        return new String[] {"say:copies " + n + ";bounds 1 20 1 2;bounds 0 40 9 0;", "tells = 3", "passes 1", "accepts 1 2",
            "passes 5", "accepts 0 4", "pulls 1 0", "evens 0", "accepts 0 1", "bounds 1 21 1 2", "reads 0", "passes 2",
            "accepts 1 3", "sees 1 0", "sees 1 0", "say:bounds 1 98 7 65;"};
    }

    private static String[] busy(int n) {
        return new String[] {"say:copies " + n + ";bounds 1 20 1 2;bounds 0 40 9 0;", "tells = 3", "passes 1", "accepts 1 2",
            "keep 1", "passes 5", "accepts 0 4", "keep 0", "pulls 1 0", "evens 0", "accepts 0 1", "bounds 1 21 1 2",
            "reads 0", "passes 2", "accepts 1 3", "sees 1 0", "sees 1 0", "say:bounds 1 98 7 65;"};
    }

    /**
     * As many as there may be of all: TIME, letters, WRITES, what was seen, what can be undone. No call in it is refused:
     * what that one changed would not show in the next.
     */
    private static String[] full(String[] ahead, int lastLetter) {
        return Script.join(ahead, "10 x passes 99", "passes 1 = 999", "19 x accepts 0 1", "accepts 0 1", "count 2 = 24",
                "62 x type 32", "type " + lastLetter + " = 80", "3 x sees 1 0", "sees 1 0 = 6", "bounds 1 97 9 99");
    }

    private static String with(String call, int n) {
        return call.replace("N", String.valueOf(n)).replace("L", String.valueOf(n - 1));
    }

    private static void everyBadCall(int n) {
        script.sentence("Refused, and nothing changes, the first of these that is so: BAD (a number is not as told, or there "
                + "is no such thing), STATE (as told), FULL.");
        for (String call : BAD_CALLS) {
            script.unchanged(busy(n), with(call, n) + " = BAD");
            script.unchanged(unkept(n), with(call, n) + " = BAD");
            script.unchanged(new String[] {"say:copies " + n + ";", "tells"}, with(call, n) + " = BAD");
        }
    }

    /** One more or less would be refused: the last copy there is takes part in all. */
    private static void lastCopies(int n) {
        script.sentence("COPIES 0 to N less 1");
        String last = String.valueOf(n - 1);
        String share = String.valueOf(99 / (n - 1));
        String[] told = {"say:copies " + n + ";", "tells = 1", "count 0 = " + n};
        script.run(Script.join(told, "accepts " + last + " 9 = 0", "pulls 0 " + last + " = 1", "pulls " + last + " 0 = 0",
                "reads " + last + " = 0", "evens " + last + " = 99", "costs " + last + " 1 = 0", "copy " + last + " 5 = 9",
                "pair 0 " + last + " 1 = " + share, "pair " + last + " 0 0 = 0", "bounds " + last + " 98 9 99 = 0",
                "write 0 0 = " + last, "write 0 3 = " + (1 | 1 << n - 1), "which = " + ((1 << n) - 1)));
    }

    private static void fullOfAll(int n, String[] ahead) {
        script.sentence("Refused, and nothing changes, the first of these that is so: BAD (a number is not as told, or there "
                + "is no such thing), STATE (as told), FULL.");
        String[] full = full(ahead, 32);
        script.unchangedEach(full, "type 32 = FULL", "type 0 = FULL", "accepts 0 1 = FULL", "accepts 1 9 = FULL",
                "passes 99 = STATE", "passes 10 = STATE", "sees 0 0 = FULL", "sees 2 999 = FULL",
                "bounds 1 97 9 99 = STATE");
        if (n > 2) {
            script.unchanged(full, "moves 1 0 2 99 = STATE");
        }
        for (String call : BAD_CALLS) {
            script.unchanged(full, with(call, n) + " = BAD");
        }
    }

    /** Where all that can be undone is known, one more of it would not show. */
    private static void fullAndFewUndone(int n) {
        script.sentence("Refused, and nothing changes");
        String[] none = Script.join(full(busy(n), 32), "keep 0", "back 0 = 999", "count 7 = 0");
        String[] some = Script.join(full(busy(n), 32), "undo = 7", "count 2 = 24");
        for (String[] ahead : new String[][] {none, some}) {
            script.unchangedEach(ahead, "type 32 = FULL", "accepts 0 1 = FULL", "passes 1 = STATE", "sees 0 0 = FULL");
            if (n > 2) {
                script.unchanged(ahead, "moves 1 0 2 99 = STATE");
            }
        }
        script.unchanged(none, "bounds 1 97 9 99 = STATE");
        script.unchanged(some, "bounds 1 21 1 2 = STATE");
    }

    private static void everyQuestion(int n) {
        script.sentence("(Nothing is changed.)");
        for (String[] ahead : new String[][] {busy(n), unkept(n)}) {
            script.asked(ahead, Script.questions(n, 4).toArray(new String[0]));
            script.asked(Script.join(ahead, "sees 0 7", "which = 1"), "ask = NONE", "which = 1");
        }
        script.asked(full(busy(n), 32), questionsOfEachKind(n - 1));
        script.asked(Script.join(full(busy(n), 32), "forget", "5 x sees 0 7", "sees 1 1 = 6", "which = 0"), "ask = NONE");
    }

    private static String[] questionsOfEachKind(int copy) {
        List<String> all = new ArrayList<>(List.of("which", "ask", "costs " + copy + " 1"));
        for (int what = 0; what < 10; what++) {
            all.add("copy " + copy + " " + what);
        }
        for (int what = 0; what < 8; what++) {
            all.add("count " + what);
        }
        for (int what = 0; what < 5; what++) {
            all.add("write 23 " + what);
            all.add("pair 0 " + copy + " " + what);
        }
        return all.toArray(new String[0]);
    }

    private static void everyState(int n) {
        script.sentence("STATE (as told)");
        for (String[] ahead : new String[][] {busy(n), unkept(n)}) {
            script.unchangedEach(ahead, "bounds 1 21 1 2 = STATE", "bounds 0 40 9 0 = STATE");
            if (n > 2) {
                script.unchangedEach(ahead, "moves 1 0 2 99 = STATE", "moves 0 2 1 99 = STATE");
            }
            script.unchanged(Script.join(ahead, "7 x undo", "undo = 0"), "undo = STATE");
            script.unchanged(Script.join(ahead, "keep 1", "back 1"), "undo = STATE");
            script.unchanged(Script.join(full(ahead, 32), "keep 0", "back 0"), "undo = STATE");
            script.unchanged(Script.join(ahead, "say:?"), "tells = -27");
            script.unchanged(Script.join(ahead, "say: bounds"), "tells = -34");
            script.unchanged(full(ahead, 63), "tells = -89");
        }
        script.unchangedEach(unkept(n), "back 0 = STATE", "back 1 = STATE");
        script.unchangedEach(full(unkept(n), 32), "back 0 = STATE", "back 1 = STATE");
        script.unchanged(Script.join(unkept(n), "keep 1", "passes 1"), "back 0 = STATE");
        script.unchanged(Script.join(unkept(n), "keep 0", "passes 1"), "back 1 = STATE");
        script.unchanged(Script.join(busy(n), "back 0"), "undo = STATE");
    }

    private static void badMoves() {
        script.sentence("BAD (three unlike COPIES)");
        for (int a = -1; a <= 4; a++) {
            for (int c = -1; c <= 4; c++) {
                for (int d = -1; d <= 4; d++) {
                    for (int n = 2; n <= 4; n++) {
                        boolean good = a >= 0 && c >= 0 && d >= 0 && a < n && c < n && d < n && a != c && a != d && c != d;
                        String due = good ? String.valueOf(budget(n, a, c) - 1) : "BAD";
                        script.run("say:copies " + n + ";", "tells", "moves " + a + " " + c + " " + d + " 1 = " + due);
                    }
                }
            }
        }
    }

    private static int budget(int n, int a, int c) {
        if (n == 4) {
            return 33;
        }
        return c == (a == 0 ? 1 : 0) ? 50 : 49;
    }

    private static void badAheadOfState() {
        script.sentence("the first of these that is so: BAD");
        String[] late = {"10 x passes 99", "passes 9 = 999"};
        script.unchangedEach(late, "passes 1 = STATE", "passes 99 = STATE", "passes 0 = BAD", "passes 100 = BAD");
        script.unchangedEach(new String[] {"moves 0 1 2 50 = 0"}, "moves 0 1 2 1 = STATE", "moves 0 1 2 99 = STATE",
                "moves 0 1 2 100 = BAD", "moves 0 1 2 0 = BAD", "moves 0 1 1 99 = BAD", "moves 0 1 3 99 = BAD");
        script.unchangedEach(new String[] {"passes 1"}, "back 0 = STATE", "back 1 = STATE", "back 2 = BAD", "back -1 = BAD");
        script.unchangedEach(new String[] {"passes 1"}, "bounds 2 99 9 99 = STATE", "bounds 3 99 9 99 = BAD",
                "bounds 2 99 10 99 = BAD");
    }

    private static void badAheadOfFull() {
        script.sentence("the first of these that is so: BAD");
        script.unchangedEach(new String[] {"24 x accepts 1 1"}, "accepts 1 1 = FULL", "accepts 2 9 = FULL",
                "accepts 3 1 = BAD", "accepts -1 1 = BAD", "accepts 1 0 = BAD", "accepts 1 10 = BAD");
        script.unchangedEach(new String[] {"80 x type 32"}, "type 32 = FULL", "type 255 = FULL", "type 256 = BAD",
                "type -1 = BAD");
        script.unchangedEach(new String[] {"6 x sees 0 0"}, "sees 0 0 = FULL", "sees 2 999 = FULL", "sees 3 0 = BAD",
                "sees -1 0 = BAD", "sees 0 1000 = BAD", "sees 0 -1 = BAD");
    }
}
