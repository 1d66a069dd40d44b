import java.io.IOException;
import java.io.UncheckedIOException;
import java.lang.reflect.InvocationTargetException;
import java.lang.reflect.Method;
import java.nio.charset.StandardCharsets;
import java.nio.file.Files;
import java.nio.file.Path;
import java.util.ArrayList;
import java.util.Arrays;
import java.util.HashMap;
import java.util.List;
import java.util.Map;

/**
 * Runs of calls on new objects, written as rows of text; no test by itself.
 *
 * <p>A row is a call ("accepts 0 5"), a call with the answer that is due ("accepts 0 5 = 1"), a text that is
 * typed ("say:copies 2;"), or a row done so many times ("24 x accepts 0 1"). MIN and MAX are the ends of int.
 */
final class Script {
    private static final int MOST_CALLS = 512, MOST_COMPLAINTS = 30;
    // What shows parts of an object that no question shows: older states, images, the letters, the room for more.
    private static final String[][] TAILS = {{}, {"undo"}, {"2 x undo"}, {"3 x undo"}, {"4 x undo"}, {"5 x undo"},
        {"6 x undo"}, {"7 x undo"}, {"8 x undo"}, {"9 x undo"}, {"back 0"}, {"back 1"}, {"tells"}, {"type 59", "tells"},
        {"clear"}, {"forget"}, {"passes 1"}, {"passes 99"}, {"accepts 0 9"}, {"evens 0", "undo"}};

    private static final String[][] LATER = {{}, {"undo"}, {"8 x undo"}, {"back 0"}, {"back 1"}, {"tells"}};

    private final Map<String, Method> methods = new HashMap<>();
    private final String document;
    private String sentence = "";
    private boolean quiet = false;
    private int asked = 0;
    private int wrong = 0;

    Script() {
        for (Method m : StaleBounds.class.getMethods()) {
            if (m.getDeclaringClass() == StaleBounds.class) {
                methods.put(m.getName(), m);
            }
        }
        try {
            document = plain(Files.readString(Path.of("../shared/DOC.md"), StandardCharsets.UTF_8));
        } catch (IOException e) {
            throw new UncheckedIOException(e);
        }
    }

    private static String plain(String words) {
        return words.replaceAll("\\s+", " ");
    }

    /** The document's own words, of which the rows that follow try the edges. */
    void sentence(String words) {
        sentence = words;
        check(document.contains(plain(words)), "the document has no such words");
    }

    void end() {
        System.out.println(asked + " answers asked, " + wrong + " wrong");
        if (wrong != 0) {
            System.exit(1);
        }
    }

    private void check(boolean so, String complaint) {
        if (quiet) {
            return;
        }
        asked++;
        if (!so) {
            wrong++;
            System.out.println("'" + sentence + "': " + complaint);
            if (wrong >= MOST_COMPLAINTS) {
                end();
            }
        }
    }

    /** A new object on which all rows were done. */
    StaleBounds run(String... rows) {
        StaleBounds x = new StaleBounds();
        int calls = 0;
        for (String row : rows) {
            calls += doRow(x, row, rows);
        }
        check(calls <= MOST_CALLS, "a run of " + calls + " calls");
        return x;
    }

    private int doRow(StaleBounds x, String row, String[] rows) {
        if (row.startsWith("say:")) {
            for (char letter : row.substring(4).toCharArray()) {
                x.type(letter);
            }
            return row.length() - 4;
        }
        if (row.matches("\\d+ x .*")) {
            int times = Integer.parseInt(row.substring(0, row.indexOf(' ')));
            for (int i = 0; i < times; i++) {
                doRow(x, row.substring(row.indexOf('x') + 2), rows);
            }
            return times;
        }
        int mark = row.indexOf(" = ");
        String call = mark < 0 ? row : row.substring(0, mark);
        int got = answer(x, call);
        if (mark >= 0) {
            int want = number(row.substring(mark + 3));
            check(got == want, call + " answered " + got + ", due is " + want + ", in " + Arrays.toString(rows));
        }
        return 1;
    }

    private static int number(String figures) {
        switch (figures) {
            case "MIN": return Integer.MIN_VALUE;
            case "MAX": return Integer.MAX_VALUE;
            case "BAD": return StaleBounds.BAD;
            case "STATE": return StaleBounds.STATE;
            case "FULL": return StaleBounds.FULL;
            case "NONE": return StaleBounds.NONE;
            default: return Integer.parseInt(figures);
        }
    }

    private int answer(StaleBounds x, String call) {
        String[] parts = call.split(" ");
        Object[] numbers = new Object[parts.length - 1];
        for (int i = 0; i < numbers.length; i++) {
            numbers[i] = number(parts[i + 1]);
        }
        try {
            return (Integer) methods.get(parts[0]).invoke(x, numbers);
        } catch (InvocationTargetException | IllegalAccessException e) {
            throw new IllegalStateException(call, e);
        }
    }

    /** The call answers as is due and changes nothing, whatever is asked or done behind it. */
    void unchanged(String[] ahead, String call) {
        String[] with = join(ahead, call);
        run(with);
        for (String[] tail : TAILS) {
            boolean same = picture(join(ahead, tail)).equals(picture(join(with, tail)));
            check(same, call + " changed what shows behind " + Arrays.toString(tail) + ", in " + Arrays.toString(ahead));
            if (!same) {
                return;
            }
        }
    }

    /**
     * The question, and each in its turn of those that would show a change, on an object of its own: were they asked
     * one behind the other, what each of them changes would stand in both pictures and not show.
     */
    void asked(String[] ahead, String... questions) {
        String[] want = new String[LATER.length];
        for (int i = 0; i < want.length; i++) {
            want[i] = eachAlone(join(ahead, LATER[i]));
        }
        for (String question : questions) {
            String[] with = join(ahead, question);
            run(with);
            for (int i = 0; i < want.length; i++) {
                check(eachAlone(join(with, LATER[i])).equals(want[i]), question + " changed what shows behind "
                        + Arrays.toString(LATER[i]) + ", in " + Arrays.toString(ahead));
            }
        }
    }

    private String eachAlone(String[] rows) {
        StringBuilder all = new StringBuilder();
        StaleBounds first = again(rows);
        for (String question : questions(first.count(0), first.count(2))) {
            all.append(answer(again(rows), question)).append(' ');
        }
        return all.toString();
    }

    static List<String> questions(int copies, int writes) {
        List<String> all = new ArrayList<>(List.of("which", "ask"));
        for (int what = 0; what < 8; what++) {
            all.add("count " + what);
        }
        for (int a = 0; a < copies; a++) {
            for (int what = 0; what < 10; what++) {
                all.add("copy " + a + " " + what);
            }
            for (int c = 0; c < copies; c++) {
                for (int what = 0; what < 4 && c != a; what++) {
                    all.add("pair " + a + " " + c + " " + what);
                }
            }
            all.add("costs " + a + " 1");
            all.add("costs " + a + " 999");
        }
        for (int w = 0; w < writes; w++) {
            for (int what = 0; what < 5; what++) {
                all.add("write " + w + " " + what);
            }
        }
        return all;
    }

    void unchangedEach(String[] ahead, String... calls) {
        for (String call : calls) {
            unchanged(ahead, call);
        }
    }

    static String[] join(String[] ahead, String... more) {
        List<String> all = new ArrayList<>(Arrays.asList(ahead));
        all.addAll(Arrays.asList(more));
        return all.toArray(new String[0]);
    }

    /** Two runs leave all that can be asked alike. */
    void alike(String[] one, String[] other) {
        run(one);
        run(other);
        String got = picture(one);
        String want = picture(other);
        check(got.equals(want), Arrays.toString(one) + " leaves " + got + ", but " + Arrays.toString(other) + " " + want);
    }

    /** As alike, but for what can be undone, the text and what was seen. */
    void alikeLedgers(String[] one, String[] other) {
        run(one);
        run(other);
        String got = ledger(again(one));
        String want = ledger(again(other));
        check(got.equals(want), Arrays.toString(one) + " leaves " + got + ", but " + Arrays.toString(other) + " " + want);
    }

    /** Rows whose answers were looked at already are not asked a second time. */
    private StaleBounds again(String[] rows) {
        quiet = true;
        StaleBounds x = run(rows);
        quiet = false;
        return x;
    }

    private String picture(String[] rows) {
        StaleBounds x = again(rows);
        return ledger(x) + x.count(5) + ' ' + x.count(6) + ' ' + x.count(7) + ' ' + x.which() + ' ' + x.ask();
    }

    private static String ledger(StaleBounds x) {
        StringBuilder all = new StringBuilder();
        for (int what = 0; what < 5; what++) {
            all.append(x.count(what)).append(' ');
        }
        for (int a = 0; a < x.count(0); a++) {
            for (int what = 0; what < 10; what++) {
                all.append(x.copy(a, what)).append(' ');
            }
            for (int c = 0; c < x.count(0); c++) {
                for (int what = 0; what < 4 && c != a; what++) {
                    all.append(x.pair(a, c, what)).append(' ');
                }
            }
        }
        for (int w = 0; w < x.count(2); w++) {
            for (int what = 0; what < 5; what++) {
                all.append(x.write(w, what)).append(' ');
            }
        }
        return all.append("; ").toString();
    }
}
