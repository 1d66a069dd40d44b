/** The edges of promises 1 to 4, and of the terms that they lean on: a new object, THE TEXT, its FAULT. */
public final class TextEdgeTest {
    private static final Script script = new Script();
    private static final String[] BUSY = {"passes 2", "keep 1", "accepts 1 5", "accepts 0 2", "pulls 2 1", "sees 0 5",
        "passes 3"};
    private static final String EIGHTY = "copies 4;bounds 0 11 2 33;bounds 1 22 3 44;bounds 2 33 4 55;bounds 3 44 5 66 ;  ";

    public static void main(String[] args) {
        newObject();
        ownObject();
        letters();
        fullText();
        clear();
        noItems();
        copiesItem();
        boundsItem();
        budgets();
        blanks();
        tellsAllAnew();
        faultOfCopies();
        faultOfBounds();
        faultOfLetters();
        faultOfFigures();
        faultIsTheFirst();
        endsTooEarly();
        textStays();
        script.end();
    }

    /** The text can't be told: the place of its fault; all stays as it was, with every letter of it. */
    private static void fault(String text, int place) {
        script.unchanged(Script.join(BUSY, "say:" + text), "tells = " + (-10 - place));
    }

    private static void told(String text, int items, String... rows) {
        script.run(Script.join(new String[] {"say:" + text, "tells = " + items, "count 6 = 0", "count 7 = 1"}, rows));
    }

    private static void newObject() {
        script.sentence("`StaleBounds()`: As at first.");
        script.run("count 0 = 3", "count 1 = 0", "count 2 = 0", "count 3 = 0", "count 4 = 7", "count 5 = 0",
                "count 6 = 0", "count 7 = 0");
        script.run("undo = STATE", "back 0 = STATE", "back 1 = STATE", "clear = 0", "forget = 0", "which = 7", "ask = 0",
                "tells = 0");
        script.sentence("COPIES 0 to N less 1 (N 2 to 4; 3 at first)");
        script.run("copy -1 0 = BAD", "copy 0 0 = 99", "copy 2 0 = 99", "copy 3 0 = BAD");
        script.sentence("NUMBER (0 to 99; 99 at first), ORDER (0 to 9; 9 at first), AGE (0 to 99; 99 at first)");
        for (int c = 0; c < 3; c++) {
            script.run("copy " + c + " 0 = 99", "copy " + c + " 1 = 9", "copy " + c + " 2 = 99");
        }
        script.sentence("WRITES 0, 1, .. (24 at most; none at first)");
        script.run("write 0 0 = BAD", "copy 0 3 = 0", "copy 1 3 = 0", "copy 2 3 = 0", "copy 0 4 = 0");
        script.sentence("HEARD: of each COPY a TIME up to which another one has heard of it (0 at first)");
        script.run("pair 0 1 0 = 0", "pair 0 2 0 = 0", "pair 1 0 0 = 0", "pair 1 2 0 = 0", "pair 2 0 0 = 0",
                "pair 2 1 0 = 0");
        script.sentence("1 more for the lowest so many of the others as are left over");
        script.run("pair 0 1 1 = 50", "pair 0 2 1 = 49", "pair 1 0 1 = 50", "pair 1 2 1 = 49", "pair 2 0 1 = 50",
                "pair 2 1 1 = 49");
    }

    private static void ownObject() {
        script.sentence("`StaleBounds()`: As at first.");
        script.run("say:copies 4;", "tells", "accepts 0 9", "passes 9", "keep 0", "keep 1", "sees 0 1", "say:x");
        script.alike(new String[] {}, new String[] {"tells", "undo"});
        script.run("count 0 = 3", "count 2 = 0", "count 6 = 0", "back 0 = STATE", "back 1 = STATE");
    }

    private static void letters() {
        script.sentence("A letter (0 .. 255) comes to THE TEXT: how many it has. BAD; FULL: 80.");
        script.run("type 0 = 1", "type 255 = 2", "type 32 = 3", "count 6 = 3", "count 7 = 0");
        String[] ahead = Script.join(BUSY, "say:copies 4;bounds 3 7 8 9;");
        script.unchangedEach(ahead, "type -1 = BAD", "type 256 = BAD", "type MIN = BAD", "type MAX = BAD",
                "type -224 = BAD", "type 315 = BAD");
        script.run("type -1 = BAD", "type 256 = BAD", "type 59 = 1");
    }

    private static void fullText() {
        script.sentence("A letter (0 .. 255) comes to THE TEXT: how many it has. BAD; FULL: 80.");
        script.run("79 x type 32", "count 6 = 79", "type 32 = 80", "type 32 = FULL", "count 6 = 80");
        String[] full = {"say:" + EIGHTY.substring(0, 79), "type 32 = 80"};
        script.unchangedEach(Script.join(BUSY, full), "type 59 = FULL", "type 0 = FULL", "type 255 = FULL",
                "type -1 = BAD", "type 256 = BAD");
        script.run("80 x type 59", "clear = 80", "type 59 = 1");
        script.sentence("THE TEXT is told letter by letter (80 letters at most)");
        script.run(Script.join(full, "type 59 = FULL", "tells = 5", "count 6 = 0", "copy 0 0 = 11", "copy 3 0 = 44",
                "copy 3 1 = 5", "copy 3 2 = 66", "type 59 = 1"));
        script.run("80 x type 32", "tells = 0", "80 x type 32", "count 6 = 80", "type 32 = FULL");
    }

    private static void clear() {
        script.sentence("THE TEXT is empty: how many letters it had.");
        script.run("clear = 0", "type 0 = 1", "clear = 1", "clear = 0", "count 6 = 0", "count 7 = 0");
        script.run("80 x type 32", "clear = 80", "clear = 0", "80 x type 32", "count 6 = 80");
        script.run("say:copies 4;", "clear = 9", "say:   ", "tells = 0", "count 0 = 3");
        script.run("say:bounds 0 1 1 1;", "clear = 15", "say:copies 2;", "tells = 1", "copy 0 0 = 99", "count 0 = 2");
        script.unchanged(BUSY, "clear = 0");
        script.alike(Script.join(BUSY, "say:copies 2;", "clear = 9"), BUSY);
    }

    private static void noItems() {
        script.sentence("It tells all anew by ITEMS (none, too; what is not told is as at first)");
        told("", 0, "count 0 = 3");
        told(" ", 0, "count 0 = 3");
        told(" ".repeat(80), 0, "count 0 = 3");
        script.alikeLedgers(Script.join(BUSY, "tells = 0"), new String[] {});
        script.alikeLedgers(Script.join(BUSY, "say:copies 4;", "tells = 1", "tells = 0"), new String[] {});
        script.sentence("how many ITEMS");
        told("copies 2;", 1);
        told("bounds 0 1 1 1;", 1);
        told("copies 2;bounds 0 1 1 1;", 2);
        told("bounds0 1 1 1;bounds0 1 1 1;bounds0 1 1 1;bounds0 1 1 1;bounds0 1 1 1;", 5);
    }

    private static void copiesItem() {
        script.sentence("COPIES 0 to N less 1 (N 2 to 4; 3 at first)");
        fault("copies 0;", 7);
        fault("copies 1;", 7);
        told("copies 2;", 1, "count 0 = 2", "copy 1 0 = 99", "copy 2 0 = BAD", "count 4 = 3");
        told("copies 3;", 1, "count 0 = 3", "copy 2 0 = 99", "copy 3 0 = BAD", "count 4 = 7");
        told("copies 4;", 1, "count 0 = 4", "copy 3 0 = 99", "copy 4 0 = BAD", "count 4 = 15");
        fault("copies 5;", 7);
        fault("copies 99;", 7);
    }

    private static void boundsItem() {
        script.sentence("bounds C N O A (NUMBER, ORDER, AGE of COPY C; of several the later)");
        told("bounds 0 0 0 0;", 1, "copy 0 0 = 0", "copy 0 1 = 0", "copy 0 2 = 0", "copy 1 0 = 99", "pair 0 1 1 = 0");
        told("bounds 2 99 9 99;", 1, "copy 2 0 = 99", "copy 2 1 = 9", "copy 2 2 = 99");
        told("bounds 2 98 8 98;", 1, "copy 2 0 = 98", "copy 2 1 = 8", "copy 2 2 = 98", "copy 1 0 = 99");
        told("bounds 1 10 1 10;", 1, "copy 1 0 = 10", "copy 1 1 = 1", "copy 1 2 = 10");
        told("copies 2;bounds 1 7 6 5;", 2, "copy 1 0 = 7", "copy 1 1 = 6", "copy 1 2 = 5", "copy 0 0 = 99");
        told("copies 4;bounds 3 7 6 5;", 2, "copy 3 0 = 7", "copy 3 1 = 6", "copy 3 2 = 5", "copy 2 0 = 99");
        told("bounds 1 1 2 3;bounds 1 4 5 6;", 2, "copy 1 0 = 4", "copy 1 1 = 5", "copy 1 2 = 6", "pair 1 0 1 = 2");
        told("bounds 1 1 2 3;bounds 0 7 8 9;bounds 1 99 9 99;", 3, "copy 1 0 = 99", "copy 1 1 = 9", "copy 1 2 = 99",
                "copy 0 0 = 7", "pair 1 0 1 = 50");
        fault("copies 2;bounds 2 1 1 1;", 16);
        fault("bounds 3 1 1 1;", 7);
        fault("copies 3;bounds 3 1 1 1;", 16);
        fault("copies 4;bounds 4 1 1 1;", 16);
        fault("bounds 10 1 1 1;", 7);
        fault("bounds 0 1 10 1;", 11);
        fault("bounds 0 1 99 1;", 11);
        fault("bounds 0 100 1 1;", 9);
        fault("bounds 0 1 1 100;", 13);
    }

    private static void budgets() {
        script.sentence("BUDGET of a COPY c for another one a: at first NUMBER of a by (N less 1), rounded down, and 1 "
                + "more for the lowest so many of the others as are left over.");
        for (int n = 2; n <= 4; n++) {
            for (int a = 0; a < n; a++) {
                for (int number = 0; number <= 99; number++) {
                    budgetsOf(n, a, number);
                }
            }
        }
    }

    private static void budgetsOf(int n, int a, int number) {
        int[] share = new int[n];
        int next = 0;
        for (int given = 0; given < number; given++) {
            next = next == a ? next + 1 : next;
            if (next >= n) {
                next = a == 0 ? 1 : 0;
            }
            share[next++] += 1;
        }
        for (int c = 0; c < n; c++) {
            String due = c == a ? "BAD" : String.valueOf(share[c]);
            script.run("say:copies " + n + ";bounds " + a + " " + number + " 9 99;", "tells = 2",
                    "pair " + a + " " + c + " 1 = " + due);
        }
    }

    private static void blanks() {
        script.sentence("blanks (32) may stand ahead of, between and behind TOKENS (needed between two NUMBERS alone)");
        told("copies2;bounds1 2 3 4;", 2, "count 0 = 2", "copy 1 0 = 2", "copy 1 1 = 3", "copy 1 2 = 4");
        told("  copies  2  ;  bounds  1  2  3  4  ;  ", 2, "count 0 = 2", "copy 1 2 = 4");
        told(" copies2;", 1, "count 0 = 2");
        told("copies 2;", 1, "count 0 = 2");
        told("copies2 ;", 1, "count 0 = 2");
        told("copies2; ", 1, "count 0 = 2");
        fault("bounds 012 3 4;", 7);
        fault("bounds 1 23 4;", 13);
        fault("bounds 1 2 3 4 5;", 15);
        fault("cop ies 2;", 0);
        fault("bounds 1 2 3 4 ; ;", 17);
        for (int letter : new int[] {0, 9, 10, 11, 12, 13, 31, 33, 160, 255}) {
            fault("copies" + (char) letter + "2;", 6);
            fault((char) letter + "copies 2;", 0);
            fault("copies 2;" + (char) letter, 9);
        }
    }

    private static void tellsAllAnew() {
        script.sentence("THE TEXT tells all anew, and is empty then");
        script.run("say:copies 2;", "tells = 1", "count 6 = 0", "tells = 0", "count 0 = 3");
        script.sentence("a text told (TIME 0, no WRITES)");
        String[] anew = Script.join(BUSY, "bounds 1 30 4 5", "moves 2 0 1 9", "say:copies 4;bounds 2 9 8 7;", "tells = 2");
        script.alikeLedgers(anew, new String[] {"say:copies 4;bounds 2 9 8 7;", "tells = 2"});
        script.run(Script.join(anew, "count 1 = 0", "count 2 = 0", "write 0 0 = BAD", "copy 1 0 = 99", "pair 2 1 0 = 0",
                "pair 2 0 1 = 3", "copy 2 3 = 0", "passes 99 = 99", "accepts 3 1 = 0", "write 0 2 = 99"));
        script.sentence("(A text told: what was SEEN, IMAGES stay.)");
        script.run(Script.join(anew, "count 5 = 1", "which = 0", "forget = 1", "back 0 = STATE", "back 1 = 2",
                "count 0 = 3"));
    }

    private static void faultOfCopies() {
        script.sentence("copies N (once at most, ahead of all others)");
        fault("copies 2;copies 2;", 9);
        fault("copies 2;bounds 0 1 1 1;copies 2;", 24);
        fault("bounds 0 1 1 1;copies 3;", 15);
        fault("bounds 0 1 1 1; copies", 16);
        fault("copies ;", 7);
        fault("copies;", 6);
        fault("copies 2 2;", 9);
        fault("copies copies;", 7);
        fault("copies bounds", 7);
        fault("copies 2 copies", 9);
        fault("copies 2 bounds 0 1 1 1;", 9);
    }

    private static void faultOfBounds() {
        script.sentence("each ended by ;");
        fault(";", 0);
        fault("   ;", 3);
        fault("copies 2;;", 9);
        fault("bounds 0 1 1 1;;", 15);
        fault("bounds;", 6);
        fault("bounds 0;", 8);
        fault("bounds 0 1;", 10);
        fault("bounds 0 1 1;", 12);
        fault("bounds 0 1 1 1 1;", 15);
        fault("bounds 0 1 1 1 bounds 0 1 1 1;", 15);
        fault("bounds bounds", 7);
        fault("bounds 0 bounds", 9);
        fault("bounds 0 1 copies", 11);
        fault("0", 0);
        fault("copies 2;7", 9);
    }

    private static void faultOfLetters() {
        script.sentence("of a word that is neither, of any other letter (each is a TOKEN by itself)");
        for (String word : new String[] {"a", "z", "copie", "copy", "copiesa", "copiesz", "acopies", "zcopies", "zopies",
            "copiez", "bound", "boundsa", "boundsz", "aounds", "bounda", "copiesbounds", "boundscopies",
            "abcdefghijklmnopqrstuvwxyz"}) {
            fault(word, 0);
            fault("  " + word + " 2;", 2);
            fault("copies 2; " + word, 10);
            fault("bounds 0 " + word, 9);
        }
        for (String odd : new String[] {"A", "Z", "@", "[", "`", "{", "/", ":", "<", "-", ",", "."}) {
            fault(odd, 0);
            fault(odd + "copies 2;", 0);
            fault("copies" + odd + "2;", 6);
            fault("copies " + odd + odd, 7);
            fault("copies 2" + odd, 8);
            fault("bounds 0 1 1 1;" + odd, 15);
        }
        fault("Copies 2;", 0);
        fault("copieS 2;", 0);
        fault("coPies 2;", 0);
        fault("BOUNDS", 0);
    }

    private static void faultOfFigures() {
        script.sentence("a NUMBER of more than two figures or with a 0 ahead of another one, that TOKEN's");
        told("bounds 0 0 0 0;", 1, "copy 0 0 = 0");
        told("bounds 0 10 0 90;", 1, "copy 0 0 = 10", "copy 0 2 = 90");
        told("bounds 0 99 9 99;", 1, "copy 0 0 = 99");
        for (String figures : new String[] {"00", "01", "09", "000", "001", "010", "100", "101", "999", "0000", "1000",
            "4294967297", "18446744073709551617"}) {
            fault("bounds 0 " + figures + " 1 1;", 9);
            fault("bounds 0 1 1 " + figures + ";", 13);
            fault("bounds " + figures + " 1 1 1;", 7);
            fault("bounds 0 1 " + figures, 11);
            fault("copies " + figures, 7);
            fault(figures, 0);
        }
        fault("copies 02;", 7);
        fault("copies 20;", 7);
        fault("copies 4294967298;", 7);
    }

    private static void faultIsTheFirst() {
        script.sentence("FAULT: the place of the first letter of the first TOKEN that can't stand there");
        fault("copies 5;copies A", 7);
        fault("bounds 0 1 1 1;copies 7;bounds 9", 15);
        fault("bounds 0 1 1 1 100 ?", 15);
        fault("bounds 7 100 10 100", 7);
        fault("bounds 0 100 10 100", 9);
        fault("bounds 0 1 10 100", 11);
        fault("; what", 0);
        fault("what ;", 0);
        fault("copies ? 2;", 7);
        fault("copies 4;bounds 3 1 1 1;copies", 24);
        fault("copies 2;bounds 0 1 1 1;bounds 2 1 1 1;", 31);
        fault(" ".repeat(79) + ";", 79);
        fault(" ".repeat(79) + "a", 79);
        fault(" ".repeat(79) + "0", 79);
        fault(";".repeat(79) + "0", 0);
        fault("0;".repeat(40), 0);
        fault("?".repeat(80), 0);
        fault("0".repeat(80), 0);
        fault("a".repeat(80), 0);
    }

    private static void endsTooEarly() {
        script.sentence("the text's length, if it ends too early");
        String whole = "copies 2;bounds 1 10 1 10;";
        for (int length = 1; length < whole.length(); length++) {
            String part = whole.substring(0, length);
            boolean inWord = length < 6 || length > 9 && length < 15;
            if (length == 9) {
                told(part, 1, "count 0 = 2");
            } else {
                fault(part, inWord ? length < 6 ? 0 : 9 : length);
            }
            if (!inWord && length != 9) {
                fault(part + "   ", length + 3);
            }
        }
        fault("copies", 6);
        fault(" copies ", 8);
        fault("bounds" + " ".repeat(74), 80);
        fault(" ".repeat(74) + "bounds", 80);
        fault(" ".repeat(74) + "bound ", 74);
        fault("copies 2" + " ".repeat(72), 80);
        told("copies 2" + " ".repeat(71) + ";", 1, "count 0 = 2");
    }

    private static void textStays() {
        script.sentence("-10 less FAULT: nothing changes, THE TEXT stays.");
        script.run("say:copies 4;bounds 3 20 2 9", "tells = -34", "count 6 = 24", "count 7 = 0", "count 0 = 3",
                "tells = -34", "type 59 = 25", "tells = 2", "count 6 = 0", "copy 3 0 = 20", "count 7 = 1");
        script.run("say:copies 4;bounds 0 1 1 1;bounds 4 1 1 1;", "tells = -41", "count 0 = 3", "copy 0 0 = 99",
                "pair 0 1 1 = 50", "clear = 39", "tells = 0");
        script.run("80 x type 59", "tells = -10", "type 59 = FULL", "clear = 80");
    }
}
