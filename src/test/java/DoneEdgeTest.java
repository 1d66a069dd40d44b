/** The edges of promises 5 to 12, and of the terms that they lean on: what is done, and UNDONE. */
public final class DoneEdgeTest {
    private static final Script script = new Script();

    public static void main(String[] args) {
        acceptsWeights();
        acceptsAtTheBudget();
        acceptsPushes();
        acceptsFull();
        passes();
        pulls();
        pullsHeard();
        readsByAge();
        readsAsThatIsThen();
        readsByOrder();
        readsAgeThenOrder();
        readsByZero();
        moves();
        movesLeft();
        evens();
        evensLeftOver();
        boundsEdges();
        boundsState();
        boundsPushes();
        boundsBudgets();
        undoEachKind();
        undoOfWrites();
        undoNotTheRest();
        undoEight();
        undoRoundTheRing();
        script.end();
    }

    private static void told(String text, String... rows) {
        script.run(Script.join(new String[] {"say:" + text, "tells"}, rows));
    }

    private static void refused(String text, String[] ahead, String... calls) {
        script.unchangedEach(Script.join(new String[] {"say:" + text, "tells"}, ahead), calls);
    }

    private static void acceptsWeights() {
        script.sentence("each ACCEPTED by a COPY, of a WEIGHT (1 to 9)");
        script.run("accepts 0 1 = 0", "write 0 1 = 1", "accepts 2 9 = 0", "write 1 1 = 9", "write 1 0 = 2", "count 3 = 10",
                "count 2 = 2");
        refused("", new String[] {"accepts 0 5", "passes 1"}, "accepts 0 0 = BAD", "accepts 0 10 = BAD",
                "accepts 0 -1 = BAD", "accepts 0 MIN = BAD", "accepts 0 MAX = BAD", "accepts -1 1 = BAD",
                "accepts 3 1 = BAD", "accepts MIN 1 = BAD", "accepts MAX 1 = BAD");
        script.sentence("2 TIME as it was");
        script.run("accepts 0 1", "10 x passes 99", "passes 9 = 999", "accepts 1 1", "write 0 2 = 0", "write 1 2 = 999");
    }

    private static void acceptsAtTheBudget() {
        script.sentence("for each other COPY a, by numbers, that c now owes more than its BUDGET, a PUSH from c to a");
        told("bounds 1 9 9 99;", "accepts 0 5 = 0", "pair 1 0 2 = 5", "pair 1 0 3 = 0", "copy 1 3 = 0",
                "accepts 0 1 = 1", "pair 1 0 2 = 0", "pair 1 0 3 = 5", "copy 1 3 = 3");
        told("bounds 1 9 9 99;", "accepts 0 6 = 1", "copy 1 3 = 1");
        told("bounds 1 9 9 99;", "accepts 2 4 = 0", "copy 1 3 = 0", "accepts 2 1 = 1", "copy 1 3 = 3");
        told("bounds 1 9 9 99;", "accepts 2 5 = 1", "copy 1 3 = 1", "copy 0 3 = 0");
        told("bounds 1 0 9 99;", "accepts 0 1 = 1", "copy 1 3 = 1", "copy 2 3 = 0");
        told("copies 4;bounds 3 1 9 99;", "accepts 1 1 = 1", "accepts 2 1 = 1", "accepts 0 1 = 0", "copy 3 3 = 3",
                "accepts 0 1 = 1", "copy 3 3 = 15");
        told("copies 2;", "10 x accepts 0 9 = 0", "accepts 0 9 = 0", "pair 1 0 3 = 0", "accepts 0 1 = 1",
                "pair 1 0 3 = 99");
        script.sentence("OWED by c to a: WEIGHTS of the WRITES ACCEPTED by c that a does not KNOW, together");
        told("bounds 1 9 9 99;", "accepts 0 5 = 0", "pulls 1 0 = 1", "pair 1 0 2 = 0", "accepts 0 5 = 0",
                "pair 1 0 2 = 5", "pulls 2 0 = 2", "accepts 2 4 = 0", "pair 1 2 2 = 4", "accepts 2 1 = 1");
    }

    private static void acceptsPushes() {
        script.sentence("how many PUSHES");
        String none = "bounds 0 0 0 0;bounds 1 0 0 0;bounds 2 0 0 0;";
        told(none, "accepts 0 1 = 2", "accepts 1 1 = 2", "accepts 2 1 = 2", "count 4 = 7");
        told("copies 4;" + none + "bounds 3 0 0 0;", "accepts 2 9 = 3", "count 4 = 15");
        told("copies 2;bounds 0 0 0 0;", "accepts 1 1 = 1", "accepts 0 1 = 0");
        script.sentence("PUSH from c to a: a KNOWS all WRITES ACCEPTED by c, and has HEARD of c up to TIME");
        told("bounds 2 6 9 99;", "accepts 0 1 = 0", "pulls 1 0", "accepts 1 3 = 0", "passes 7", "accepts 1 1 = 1",
                "copy 2 3 = 6", "pair 2 1 0 = 7", "pair 2 0 0 = 0", "pair 1 2 0 = 0", "copy 1 3 = 7", "copy 0 3 = 1");
        script.sentence("(By a PUSH nothing is FAST, but for COPY 0.)");
        told(none, "accepts 1 1 = 2", "copy 0 4 = 1", "copy 1 4 = 0", "copy 2 4 = 0", "write 0 4 = 1");
        told(none, "accepts 0 1 = 2", "copy 0 4 = 1", "copy 1 4 = 0", "copy 2 4 = 0", "copy 2 7 = 1");
        script.sentence("(of COPY 0 all that it KNOWS, always)");
        told("bounds 0 6 9 99;", "accepts 0 1", "copy 0 4 = 1", "accepts 1 3 = 0", "copy 0 4 = 1", "accepts 1 1 = 1",
                "copy 0 4 = 7", "accepts 2 1", "pulls 0 2 = 1", "copy 0 4 = 15", "copy 0 7 = 0", "copy 1 4 = 0");
    }

    private static void acceptsFull() {
        script.sentence("BAD; FULL: 24 WRITES.");
        script.run("23 x accepts 0 1", "accepts 2 9 = 0", "count 2 = 24", "write 23 0 = 2", "write 24 0 = BAD",
                "copy 2 3 = 8388608", "accepts 0 1 = FULL", "count 2 = 24", "undo = 7", "count 2 = 23",
                "accepts 1 2 = 0", "write 23 0 = 1", "accepts 1 2 = FULL", "tells = 0", "accepts 1 2 = 0");
        String[] full = {"20 x accepts 0 1", "passes 3", "3 x accepts 1 2", "keep 0", "accepts 2 9"};
        refused("copies 4;bounds 1 20 0 0;", full, "accepts 0 1 = FULL", "accepts 3 9 = FULL", "accepts 0 0 = BAD",
                "accepts 0 10 = BAD", "accepts 4 1 = BAD", "accepts -1 1 = BAD");
        told("copies 4;", Script.join(full, "back 0", "accepts 3 1 = 0", "accepts 3 1 = FULL"));
    }

    private static void passes() {
        script.sentence("GONE BY, n (1 .. 99): TIME. BAD; STATE: it would be above 999.");
        script.run("passes 1 = 1", "passes 99 = 100", "count 1 = 100");
        refused("", new String[] {"accepts 0 5", "passes 7"}, "passes 0 = BAD", "passes 100 = BAD", "passes -1 = BAD",
                "passes MIN = BAD", "passes MAX = BAD");
        script.run("10 x passes 99", "count 1 = 990", "passes 9 = 999", "count 1 = 999");
        script.run("9 x passes 99", "passes 9 = 900", "passes 99 = 999");
        refused("", new String[] {"10 x passes 99"}, "passes 10 = STATE", "passes 99 = STATE", "passes 100 = BAD",
                "passes 0 = BAD");
        refused("", new String[] {"9 x passes 99", "passes 10 = 901"}, "passes 99 = STATE");
        refused("", new String[] {"10 x passes 99", "passes 9 = 999"}, "passes 1 = STATE", "passes 99 = STATE",
                "passes 100 = BAD", "passes 0 = BAD", "passes MAX = BAD");
        script.run("10 x passes 99", "passes 9 = 999", "passes 1 = STATE", "undo = 7", "passes 8 = 998", "passes 1 = 999",
                "tells = 0", "count 1 = 0", "passes 99 = 99");
    }

    private static void pulls() {
        script.sentence("PULLED, by a COPY from another one: how many WRITES more it KNOWS. BAD (one and the same, too).");
        refused("", new String[] {"accepts 1 5", "passes 7"}, "pulls 0 0 = BAD", "pulls 1 1 = BAD", "pulls 2 2 = BAD",
                "pulls -1 0 = BAD", "pulls 0 -1 = BAD", "pulls 3 0 = BAD", "pulls 0 3 = BAD", "pulls 3 3 = BAD",
                "pulls MIN 0 = BAD", "pulls 0 MAX = BAD");
        refused("copies 2;", new String[] {"accepts 1 5"}, "pulls 2 0 = BAD", "pulls 0 2 = BAD", "pulls 1 1 = BAD");
        refused("copies 4;", new String[] {"accepts 1 5"}, "pulls 4 0 = BAD", "pulls 0 4 = BAD", "pulls 3 3 = BAD");
        told("copies 4;", "accepts 3 1", "pulls 0 3 = 1", "pulls 3 0 = 0");
        script.run("pulls 0 1 = 0", "count 7 = 1", "24 x accepts 1 1", "pulls 2 1 = 24", "copy 2 3 = 16777215",
                "pulls 2 1 = 0", "pulls 0 2 = 24", "copy 0 4 = 16777215", "copy 2 4 = 0", "pulls 1 0 = 0",
                "copy 1 4 = 16777215");
        script.sentence("a KNOWS, too, all that c KNOWS; for a all is FAST, too, that is for c");
        script.run("accepts 1 1", "accepts 2 1", "accepts 0 1", "pulls 1 0 = 1", "copy 1 3 = 5", "copy 1 4 = 4",
                "pulls 2 1 = 2", "copy 2 3 = 7", "copy 2 4 = 4", "copy 1 3 = 5", "copy 0 3 = 4");
    }

    private static void pullsHeard() {
        script.sentence("a has HEARD of c up to TIME, of each other COPY up to what c has HEARD of it, if that is later");
        script.run("passes 5", "pulls 0 2", "pair 0 2 0 = 5", "pair 2 0 0 = 0", "pair 0 1 0 = 0", "passes 1", "pulls 1 2",
                "passes 1", "pulls 0 1", "pair 0 1 0 = 7", "pair 0 2 0 = 6", "pair 1 0 0 = 0", "passes 1", "pulls 0 2",
                "pair 0 2 0 = 8", "pulls 0 1", "pair 0 2 0 = 8", "pair 0 1 0 = 8", "pair 1 2 0 = 6");
        script.run("passes 3", "pulls 1 0", "passes 1", "pulls 2 1", "pair 2 1 0 = 4", "pair 2 0 0 = 3", "passes 1",
                "pulls 2 0", "pulls 1 2", "pair 1 0 0 = 5", "pair 1 2 0 = 5");
        told("copies 4;", "passes 1", "pulls 1 0", "passes 1", "pulls 1 3", "passes 1", "pulls 2 0", "passes 1",
                "pulls 2 1", "pair 2 0 0 = 3", "pair 2 1 0 = 4", "pair 2 3 0 = 2", "pair 1 2 0 = 0", "pair 1 0 0 = 1");
    }

    private static void readsByAge() {
        script.sentence("first for each other COPY c, by numbers, of which a has HEARD up to more than AGE of a ahead of "
                + "TIME (as that is then): PULLED, by a from c");
        told("bounds 1 99 9 4;", "reads 1 = 0", "passes 4", "reads 1 = 0", "pair 1 0 0 = 0", "passes 1", "copy 1 8 = 2",
                "reads 1 = 2", "pair 1 0 0 = 5", "pair 1 2 0 = 5", "passes 4", "reads 1 = 0", "passes 1", "reads 1 = 2");
        told("bounds 1 99 9 0;", "reads 1 = 0", "passes 1", "reads 1 = 2", "reads 1 = 0", "passes 1", "reads 1 = 2");
        script.run("passes 99", "reads 0 = 0", "reads 1 = 0", "passes 1", "copy 0 8 = 2", "reads 1 = 2",
                "reads 0 = 1");
        told("copies 2;bounds 1 99 9 3;", "passes 3", "reads 1 = 0", "passes 1", "reads 1 = 1", "reads 0 = 0");
        told("copies 4;bounds 3 99 9 3;", "passes 3", "reads 3 = 0", "passes 1", "reads 3 = 3", "reads 3 = 0");
        told("bounds 1 99 9 4;", "passes 1", "pulls 1 0", "passes 4", "reads 1 = 1", "pair 1 0 0 = 1", "pair 1 2 0 = 5");
        script.sentence("READ: how often it was PULLED (by whomever). BAD.");
        refused("bounds 0 9 0 0;", new String[] {"accepts 1 5", "passes 7"}, "reads -1 = BAD", "reads 3 = BAD",
                "reads MIN = BAD", "reads MAX = BAD");
        refused("copies 2;bounds 0 9 0 0;", new String[] {"passes 7"}, "reads 2 = BAD");
        refused("copies 4;bounds 0 9 0 0;", new String[] {"passes 7"}, "reads 4 = BAD");
        script.run("reads 0 = 0", "count 7 = 1", "reads 2 = 0", "count 7 = 2");
    }

    private static void readsAsThatIsThen() {
        script.sentence("(as that is then)");
        told("bounds 1 99 9 3;", "passes 1", "pulls 0 2", "passes 3", "reads 1 = 1", "pair 1 2 0 = 1");
        told("bounds 1 99 9 3;", "passes 1", "pulls 0 2", "passes 4", "reads 1 = 2", "pair 1 2 0 = 5");
        script.sentence("by numbers");
        told("bounds 1 99 9 3;", "passes 4", "pulls 2 0", "reads 1 = 2", "pair 1 0 0 = 4");
        told("bounds 1 99 9 3;", "passes 4", "pulls 0 2", "reads 1 = 1", "pair 1 2 0 = 4");
        told("copies 4;bounds 0 99 9 0;", "passes 1", "pulls 1 2", "pulls 1 3", "reads 0 = 1");
        told("copies 4;bounds 0 99 9 0;", "passes 1", "pulls 2 1", "pulls 2 3", "reads 0 = 2");
        told("copies 4;bounds 0 99 9 0;", "passes 1", "pulls 3 1", "pulls 3 2", "reads 0 = 3");
    }

    private static void readsByOrder() {
        script.sentence("if a KNOWS more than ORDER of a WRITES that are not FAST for it: PULLED, by COPY 0 from a, then "
                + "by a from COPY 0");
        told("bounds 1 99 0 99;", "reads 1 = 0", "accepts 1 1", "reads 1 = 2", "copy 1 4 = 1", "copy 0 4 = 1",
                "reads 1 = 0");
        told("bounds 2 99 2 99;", "2 x accepts 2 1", "reads 2 = 0", "copy 0 3 = 0", "accepts 2 1", "reads 2 = 2",
                "copy 2 4 = 7", "2 x accepts 2 1", "reads 2 = 0", "accepts 2 1", "reads 2 = 2");
        script.run("9 x accepts 2 1", "reads 2 = 0", "copy 2 7 = 9", "accepts 2 1", "copy 2 7 = 10", "reads 2 = 2",
                "copy 2 7 = 0");
        told("bounds 2 99 1 99;", "accepts 0 1", "accepts 1 1", "2 x accepts 2 1", "passes 5", "reads 2 = 2",
                "copy 0 3 = 13", "copy 2 3 = 13", "copy 2 4 = 13", "copy 1 3 = 2", "pair 0 2 0 = 5", "pair 2 0 0 = 5",
                "pair 2 1 0 = 0", "pair 0 1 0 = 0");
        told("bounds 2 99 1 99;", "2 x accepts 2 1", "passes 3", "pulls 0 1", "passes 1", "reads 2 = 2",
                "pair 2 1 0 = 3");
    }

    private static void readsAgeThenOrder() {
        script.sentence("Then, if a KNOWS more than ORDER of a WRITES that are not FAST for it");
        told("bounds 2 99 0 0;", "accepts 2 1", "pulls 0 2", "passes 1", "reads 2 = 2", "copy 2 4 = 1");
        told("bounds 2 99 0 0;", "accepts 1 1", "passes 1", "copy 2 7 = 0", "reads 2 = 4", "copy 2 4 = 1", "copy 0 4 = 1");
        told("copies 4;bounds 3 99 0 0;", "accepts 1 1", "passes 1", "copy 3 8 = 5", "reads 3 = 5", "reads 3 = 0");
        told("copies 2;bounds 1 99 0 0;", "accepts 1 1", "reads 1 = 2", "accepts 1 1", "passes 1", "reads 1 = 3");
    }

    private static void readsByZero() {
        script.sentence("(of COPY 0 all that it KNOWS, always)");
        told("bounds 0 99 0 99;", "accepts 0 1", "reads 0 = 0", "accepts 1 1", "pulls 0 1", "reads 0 = 0");
        told("bounds 0 99 0 0;", "accepts 1 1", "accepts 2 1", "passes 1", "reads 0 = 2", "copy 0 4 = 3", "reads 0 = 0");
    }

    private static void moves() {
        script.sentence("MOVED, from c to d, k (1 .. 99): BUDGET of c for a then. BAD (three unlike COPIES)");
        script.run("moves 0 1 2 1 = 49", "pair 0 1 1 = 49", "pair 0 2 1 = 50", "moves 0 1 2 49 = 0",
                "moves 0 2 1 99 = 0", "pair 0 1 1 = 99", "pair 0 2 1 = 0", "pair 1 0 1 = 50", "pair 2 0 1 = 50");
        String[] ahead = {"moves 0 1 2 50 = 0", "accepts 1 5", "passes 1"};
        refused("", ahead, "moves 0 2 1 0 = BAD", "moves 0 2 1 100 = BAD", "moves 0 2 1 -1 = BAD", "moves 0 2 1 MIN = BAD",
                "moves 0 2 1 MAX = BAD", "moves 0 0 2 1 = BAD", "moves 2 0 2 1 = BAD", "moves 0 2 2 1 = BAD",
                "moves 0 0 0 1 = BAD", "moves -1 2 1 1 = BAD", "moves 3 2 1 1 = BAD", "moves 0 -1 1 1 = BAD",
                "moves 0 3 1 1 = BAD", "moves 0 2 -1 1 = BAD", "moves 0 2 3 1 = BAD", "moves MAX 2 1 1 = BAD",
                "moves 0 MIN 1 1 = BAD", "moves 0 2 MAX 1 = BAD");
        refused("copies 2;", new String[] {"passes 1"}, "moves 0 1 2 1 = BAD", "moves 1 0 2 1 = BAD", "moves 2 0 1 1 = BAD",
                "moves 0 1 0 1 = BAD", "moves 0 1 1 1 = BAD");
        told("copies 4;", "moves 3 0 1 1 = 32", "moves 0 3 1 33 = 0", "moves 1 0 3 5 = 28", "pair 1 2 1 = 33",
                "pair 1 3 1 = 38", "moves 4 0 1 1 = BAD", "moves 0 4 1 1 = BAD", "moves 0 1 4 1 = BAD");
    }

    private static void movesLeft() {
        script.sentence("STATE: LEFT of c for a is less than k.");
        script.run("moves 0 1 2 50 = 0", "pair 0 1 3 = 0");
        refused("", new String[] {"accepts 0 3"}, "moves 0 1 2 51 = STATE", "moves 0 2 1 50 = STATE",
                "moves 0 1 2 99 = STATE", "moves 0 1 2 100 = BAD", "moves 0 1 2 0 = BAD");
        refused("", new String[] {"moves 0 1 2 50 = 0"}, "moves 0 1 2 1 = STATE");
        refused("", new String[] {"accepts 1 9", "pair 0 1 3 = 41"}, "moves 0 1 2 42 = STATE", "moves 0 1 2 50 = STATE");
        script.run("accepts 1 9", "moves 0 1 2 41 = 9", "pair 0 1 3 = 0", "moves 0 1 2 1 = STATE", "pulls 0 1",
                "pair 0 1 3 = 9", "moves 0 1 2 10 = STATE", "moves 0 1 2 9 = 0");
        told("bounds 0 0 9 99;", "moves 0 1 2 1 = STATE", "moves 0 2 1 1 = STATE");
        told("bounds 0 1 9 99;", "moves 0 2 1 1 = STATE", "moves 0 1 2 1 = 0", "pair 0 2 1 = 1", "accepts 2 1 = 0",
                "accepts 1 1 = 1", "accepts 2 1 = 1");
    }

    private static void evens() {
        script.sentence("EVENED: LEFT of all, together. BAD.");
        refused("copies 4;", new String[] {"moves 1 0 2 9", "accepts 2 5"}, "evens -1 = BAD", "evens 4 = BAD",
                "evens MIN = BAD", "evens MAX = BAD");
        refused("", new String[] {"moves 1 0 2 9"}, "evens 3 = BAD");
        refused("copies 2;", new String[] {"accepts 1 9"}, "evens 2 = BAD");
        told("copies 4;", "evens 3 = 99", "evens 0 = 99");
        told("copies 2;", "accepts 1 9", "evens 0 = 90", "pair 0 1 1 = 99", "evens 1 = 99", "pair 1 0 1 = 99");
        told("bounds 0 0 0 0;", "evens 0 = 0", "pair 0 1 1 = 0", "pair 0 2 1 = 0", "count 7 = 2");
        told("bounds 1 9 0 99;", "accepts 0 5 = 0", "accepts 2 4 = 0", "evens 1 = 0", "pair 1 0 1 = 5", "pair 1 2 1 = 4");
        script.run("evens 0 = 99", "evens 0 = 99", "count 7 = 2", "moves 0 1 2 50", "evens 0 = 99", "pair 0 1 1 = 50",
                "pair 0 2 1 = 49", "pair 1 0 1 = 50");
    }

    private static void evensLeftOver() {
        script.sentence("is split anew: by (N less 1), rounded down, and 1 more for the lowest so many as are left over; "
                + "BUDGET of each is OWED and that");
        String[] three = {"moves 1 0 3 7", "accepts 2 1"};
        told("copies 4;bounds 1 20 9 99;", Script.join(three, "evens 1 = 19", "pair 1 0 1 = 7", "pair 1 2 1 = 7",
                "pair 1 3 1 = 6", "pair 1 2 3 = 6", "accepts 2 1", "evens 1 = 18", "pair 1 0 1 = 6", "pair 1 2 1 = 8",
                "pair 1 3 1 = 6", "accepts 2 1", "evens 1 = 17", "pair 1 0 1 = 6", "pair 1 2 1 = 9", "pair 1 3 1 = 5"));
        told("copies 4;bounds 0 2 9 99;", "moves 0 1 3 1", "moves 0 2 3 1", "pair 0 3 1 = 2", "evens 0 = 2",
                "pair 0 1 1 = 1", "pair 0 2 1 = 1", "pair 0 3 1 = 0", "accepts 1 1", "moves 0 2 3 1", "evens 0 = 1",
                "pair 0 1 1 = 2", "pair 0 2 1 = 0", "pair 0 3 1 = 0");
        told("bounds 2 8 9 99;", "accepts 1 3", "evens 2 = 5", "pair 2 0 1 = 3", "pair 2 1 1 = 5", "pair 2 1 3 = 2",
                "accepts 1 2 = 0", "accepts 1 1 = 1", "pair 2 1 1 = 5", "pair 2 1 3 = 5");
    }

    private static void boundsEdges() {
        script.sentence("BOUND, anew: how many PUSHES. BAD; STATE: all three are so.");
        script.run("bounds 0 0 0 0 = 0", "copy 0 0 = 0", "copy 0 1 = 0", "copy 0 2 = 0", "pair 0 1 1 = 0",
                "bounds 0 99 9 99 = 0", "copy 0 0 = 99", "copy 0 1 = 9", "copy 0 2 = 99", "bounds 2 1 1 1 = 0",
                "copy 2 0 = 1", "copy 2 1 = 1", "copy 2 2 = 1", "copy 1 0 = 99");
        refused("bounds 0 5 5 5;", new String[] {"accepts 1 2", "moves 0 1 2 1", "passes 1"}, "bounds 0 -1 5 5 = BAD",
                "bounds 0 100 5 5 = BAD", "bounds 0 4 -1 5 = BAD", "bounds 0 4 10 5 = BAD", "bounds 0 4 5 -1 = BAD",
                "bounds 0 4 5 100 = BAD", "bounds -1 4 5 5 = BAD", "bounds 3 4 5 5 = BAD", "bounds 0 MIN 5 5 = BAD",
                "bounds 0 MAX 5 5 = BAD", "bounds 0 5 MIN 5 = BAD", "bounds 0 5 MAX 5 = BAD", "bounds 0 5 5 MIN = BAD",
                "bounds 0 5 5 MAX = BAD", "bounds MIN 5 5 5 = BAD", "bounds MAX 5 5 5 = BAD");
        refused("copies 2;", new String[] {"passes 1"}, "bounds 2 99 9 99 = BAD", "bounds 2 1 1 1 = BAD");
        refused("copies 4;", new String[] {"passes 1"}, "bounds 4 99 9 99 = BAD", "bounds 4 1 1 1 = BAD");
        told("copies 4;", "bounds 3 98 9 99 = 0", "copy 3 0 = 98");
    }

    private static void boundsState() {
        script.sentence("STATE: all three are so.");
        refused("bounds 1 20 3 4;", new String[] {"moves 1 0 2 5", "accepts 2 3"}, "bounds 1 20 3 4 = STATE",
                "bounds 0 99 9 99 = STATE", "bounds 2 99 9 99 = STATE");
        told("bounds 1 20 3 4;", "bounds 1 21 3 4 = 0", "bounds 1 21 4 4 = 0", "bounds 1 21 4 5 = 0",
                "bounds 1 21 4 5 = STATE", "count 7 = 4");
        told("bounds 1 0 0 0;", "bounds 1 0 0 0 = STATE", "bounds 1 0 0 1 = 0", "bounds 1 0 1 1 = 0",
                "bounds 1 1 1 1 = 0", "undo = 3", "bounds 1 0 1 1 = STATE");
    }

    private static void boundsPushes() {
        script.sentence("then by each other COPY c, by numbers, that owes a more than its BUDGET, a PUSH to a");
        script.run("accepts 0 5", "accepts 2 4", "passes 3", "bounds 1 10 9 99 = 0", "bounds 1 9 9 99 = 0", "copy 1 3 = 0",
                "pair 1 0 3 = 0", "pair 1 2 3 = 0", "bounds 1 8 9 99 = 1", "copy 1 3 = 1", "pair 1 0 0 = 3",
                "pair 1 2 0 = 0", "bounds 1 7 9 99 = 1", "copy 1 3 = 3", "copy 1 4 = 0", "pair 1 2 0 = 3");
        String[] each = {"accepts 0 1", "accepts 1 1", "accepts 2 1"};
        told("copies 4;", Script.join(each, "bounds 3 3 9 99 = 0", "undo", "bounds 3 2 9 99 = 1", "copy 3 3 = 4", "undo",
                "bounds 3 1 9 99 = 2", "copy 3 3 = 6", "undo", "bounds 3 0 9 99 = 3", "copy 3 3 = 7"));
        told("copies 4;", "accepts 1 1", "accepts 2 1", "accepts 3 1", "bounds 0 0 0 0 = 3", "copy 0 4 = 7");
        told("copies 2;", "accepts 0 9", "bounds 1 9 9 99 = 0", "bounds 1 8 9 99 = 1");
        script.run("accepts 0 9", "bounds 1 99 0 0 = 0", "copy 1 3 = 0", "bounds 2 0 9 99 = 1", "copy 1 3 = 0");
    }

    private static void boundsBudgets() {
        script.sentence("if NUMBER becomes another one, BUDGETS for a are as at first by it");
        String[] moved = {"moves 1 0 2 7", "pair 1 0 1 = 3", "pair 1 2 1 = 17"};
        told("bounds 1 20 3 4;", Script.join(moved, "bounds 1 20 3 5 = 0", "pair 1 0 1 = 3", "pair 1 2 1 = 17",
                "bounds 1 20 2 5 = 0", "pair 1 0 1 = 3"));
        told("bounds 1 20 3 4;", Script.join(moved, "bounds 1 21 3 4 = 0", "pair 1 0 1 = 11", "pair 1 2 1 = 10",
                "bounds 1 20 3 4 = 0", "pair 1 0 1 = 10", "pair 1 2 1 = 10"));
        told("bounds 1 20 3 4;", Script.join(moved, "moves 0 1 2 1", "bounds 1 19 3 4 = 0", "pair 1 0 1 = 10",
                "pair 1 2 1 = 9", "pair 0 1 1 = 49", "pair 2 0 1 = 50", "pair 2 1 1 = 49"));
        told("bounds 1 20 3 4;", Script.join(moved, "accepts 0 3 = 0", "bounds 1 20 0 0 = 0", "accepts 0 1 = 1"));
    }

    private static void undoEachKind() {
        script.sentence("UNDONE: the latest tells(), accepts(), passes(), pulls(), reads(), moves(), evens(), bounds() that "
                + "was not refused: all that 1 tells but THE TEXT is as ahead of it");
        String[] ahead = {"say:copies 4;bounds 2 20 0 3;bounds 0 9 9 0;", "tells = 3", "accepts 1 2", "moves 2 0 1 3",
            "passes 5", "accepts 3 2", "pulls 1 3", "keep 0", "keep 1", "sees 0 4", "say:copies 2;"};
        String[] asBefore = Script.join(ahead, "clear");
        for (String call : new String[] {"accepts 2 9", "accepts 1 9", "passes 99", "pulls 2 1", "pulls 3 0", "reads 2",
            "reads 0", "reads 3", "moves 2 1 3 1", "evens 2", "evens 3", "bounds 2 0 9 99", "bounds 0 9 9 1"}) {
            script.alike(Script.join(ahead, "undo = 5", "6 x undo"), Script.join(ahead, call, "undo = 6", "7 x undo"));
            script.alike(ahead, Script.join(ahead, call, "undo = 6"));
            script.run(Script.join(ahead, "count 7 = 6", call, "count 7 = 7", "count 6 = 9"));
        }
        script.run(Script.join(ahead, "tells = 1", "count 0 = 2", "count 7 = 7", "undo = 6", "count 0 = 4", "count 6 = 0"));
        script.alike(Script.join(ahead, "tells = 1", "undo = 6"), asBefore);
    }

    /** The same WRITE is another one meanwhile: by whom, its WEIGHT and its TIME come back, too. */
    private static void undoOfWrites() {
        script.sentence("all that 1 tells but THE TEXT is as ahead of it");
        String[] first = {"passes 3", "accepts 1 5", "write 0 0 = 1", "write 0 1 = 5", "write 0 2 = 3"};
        String[] asFirst = {"write 0 0 = 1", "write 0 1 = 5", "write 0 2 = 3", "count 3 = 5", "write 1 0 = BAD"};
        String[] other = {"tells = 0", "accepts 2 7", "write 0 0 = 2", "write 0 1 = 7", "write 0 2 = 0"};
        script.run(Script.join(Script.join(Script.join(first, other), "undo", "undo = 2"), asFirst));
        script.run(Script.join(Script.join(Script.join(first, "keep 0"), other), Script.join(new String[] {"back 0"}, asFirst)));
        script.run(Script.join(Script.join(Script.join(first, "keep 1"), other), Script.join(new String[] {"back 1"}, asFirst)));
    }

    private static void undoNotTheRest() {
        script.sentence("UNDONE: how many more may be. STATE: none.");
        script.unchanged(new String[] {}, "undo = STATE");
        script.unchanged(new String[] {"sees 0 1", "say:copies 2;", "keep 0", "clear", "say:copies 4;"}, "undo = STATE");
        script.unchanged(new String[] {"accepts 0 1", "keep 1", "undo = 0", "say:bounds 1 2 3 4;"}, "undo = STATE");
        script.run("accepts 0 1", "type 32", "clear", "sees 0 1", "forget", "which", "ask", "keep 0", "copy 0 8", "pair 0 1 3",
                "write 0 1", "costs 0 1", "count 1", "count 7 = 1", "undo = 0", "count 2 = 0", "undo = STATE");
        script.run("passes 1", "accepts 0 10", "accepts 3 1", "passes 0", "pulls 0 0", "reads 3", "moves 0 1 2 99", "evens 3",
                "bounds 0 99 9 99", "type 59", "tells = -10", "count 7 = 1", "undo = 0", "count 1 = 0", "undo = STATE");
        script.run("passes 1", "passes 2", "undo = 1", "count 1 = 1", "passes 5 = 6", "undo = 1", "undo = 0", "count 1 = 0");
    }

    private static void undoEight() {
        script.sentence("(8 are known, older ones are lost)");
        script.run("7 x passes 1", "count 7 = 7", "passes 1 = 8", "count 7 = 8", "undo = 7", "undo = 6", "undo = 5",
                "undo = 4", "undo = 3", "undo = 2", "undo = 1", "undo = 0", "count 1 = 0", "undo = STATE", "count 1 = 0");
        script.run("9 x passes 1", "count 7 = 8", "undo = 7", "count 1 = 8", "6 x undo", "undo = 0", "count 1 = 1",
                "undo = STATE", "count 1 = 1", "count 7 = 0");
        script.run("accepts 0 1", "tells", "accepts 1 2", "passes 3", "pulls 0 1", "reads 2", "moves 0 1 2 3", "evens 0",
                "bounds 0 1 2 3", "count 7 = 8", "7 x undo", "undo = 0", "count 2 = 1", "write 0 0 = 0", "undo = STATE");
        script.run("99 x passes 1", "count 7 = 8", "8 x undo", "count 1 = 91", "undo = STATE");
        script.unchanged(new String[] {"9 x passes 1", "8 x undo", "count 1 = 1"}, "undo = STATE");
    }

    private static void undoRoundTheRing() {
        script.sentence("(8 are known, older ones are lost)");
        script.run("11 x passes 1", "4 x undo", "undo = 3", "count 1 = 6", "5 x passes 2", "count 7 = 8", "passes 2 = 18",
                "count 7 = 8", "undo = 7", "count 1 = 16", "undo = 6", "count 1 = 14", "3 x undo", "count 1 = 8",
                "undo = 2", "count 1 = 6", "undo = 1", "count 1 = 5", "undo = 0", "count 1 = 4", "undo = STATE",
                "count 1 = 4", "9 x passes 3", "count 1 = 31", "8 x undo", "count 1 = 7", "undo = STATE");
    }
}
