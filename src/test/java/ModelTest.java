import java.util.ArrayDeque;
import java.util.ArrayList;
import java.util.Arrays;
import java.util.Deque;
import java.util.HashMap;
import java.util.List;
import java.util.Map;
import java.util.Random;
import java.util.TreeSet;
import java.util.regex.Matcher;
import java.util.regex.Pattern;

/** Made-up runs of calls; each answer is held against a second, plain reading of the document. */
public final class ModelTest {
    private static final String[] NAMES = {"type", "clear", "tells", "accepts", "passes", "pulls", "reads", "moves",
        "evens", "bounds", "undo", "copy", "pair", "write", "costs", "sees", "forget", "which", "ask", "keep", "back",
        "count"};
    private static final int[] ARGUMENTS = {1, 0, 0, 2, 1, 2, 1, 4, 1, 4, 0, 2, 3, 2, 2, 2, 0, 0, 0, 1, 1, 1};
    // What is done comes more often than what throws a run back to its start.
    private static final int[] OFTEN = {0, 1, 0, 40, 12, 20, 20, 15, 8, 10, 6, 6, 4, 4, 6, 4, 2, 6, 8, 3, 2, 2};

    public static void main(String[] args) {
        long calls = 0;
        for (int run = 0; run < 3000; run++) {
            Random random = new Random(run);
            Run pair = new Run(run);
            while (pair.calls < 512 && !pair.failed) {
                oneStep(pair, random);
            }
            calls += pair.calls;
            if (pair.failed) {
                System.out.println("run " + run + ":\n" + pair.told);
                System.exit(1);
            }
        }
        System.out.println(calls + " calls answered as the model does");
    }

    private static void oneStep(Run pair, Random random) {
        if (random.nextInt(60) == 0) {
            pair.call(1);
            for (char letter : Texts.make(random).toCharArray()) {
                pair.call(0, letter);
            }
            pair.call(2);
        } else if (random.nextInt(40) == 0) {
            pair.askAll();
        } else if (random.nextInt(200) == 0) {
            pair.call(0, random.nextInt(300) - 20);
        } else {
            int which = choose(random);
            pair.call(which, arguments(which, pair, random));
        }
    }

    private static int choose(Random random) {
        int at = random.nextInt(Arrays.stream(OFTEN).sum());
        int which = 0;
        while (at >= OFTEN[which]) {
            at -= OFTEN[which];
            which++;
        }
        return which;
    }

    private static int[] arguments(int which, Run pair, Random random) {
        int[] a = new int[ARGUMENTS[which]];
        for (int i = 0; i < a.length; i++) {
            a[i] = random.nextInt(4);
        }
        switch (NAMES[which]) {
            case "accepts": a[1] = 1 + random.nextInt(9); break;
            case "passes": a[0] = 1 + random.nextInt(random.nextInt(8) == 0 ? 99 : 6); break;
            case "moves": a[3] = 1 + random.nextInt(random.nextInt(4) == 0 ? 99 : 9); break;
            case "bounds":
                a[1] = random.nextInt(random.nextBoolean() ? 100 : 30);
                a[2] = random.nextInt(random.nextBoolean() ? 10 : 3);
                a[3] = random.nextInt(random.nextBoolean() ? 100 : 8);
                if (random.nextInt(6) == 0) {
                    System.arraycopy(pair.model.now.bound[a[0]], 0, a, 1, 3);
                }
                break;
            case "copy": a[1] = random.nextInt(11); break;
            case "pair": a[2] = random.nextInt(5); break;
            case "write": a[0] = random.nextInt(25); a[1] = random.nextInt(6); break;
            case "costs": a[1] = 1 + random.nextInt(random.nextBoolean() ? 999 : 40); break;
            case "sees": a[0] = random.nextInt(3); a[1] = seenNumber(a[0], pair, random); break;
            case "keep": case "back": a[0] = random.nextInt(2); break;
            case "count": a[0] = random.nextInt(9); break;
            default: break;
        }
        if (a.length > 0 && random.nextInt(25) == 0) {
            int[] odd = {-1, 0, 3, 4, 10, 100, 1000, Integer.MAX_VALUE, Integer.MIN_VALUE};
            a[random.nextInt(a.length)] = odd[random.nextInt(odd.length)];
        }
        return a;
    }

    /** Mostly what is so of one of the copies, so that which() is not always none. */
    private static int seenNumber(int what, Run pair, Random random) {
        if (random.nextInt(8) == 0) {
            return random.nextInt(1000);
        }
        return pair.model.of(random.nextInt(pair.model.now.n), what);
    }

    /** Texts, most of them right, some with a letter or more put wrong. */
    private static final class Texts {
        static String make(Random random) {
            StringBuilder text = new StringBuilder();
            int n = 3;
            if (random.nextInt(3) > 0) {
                n = 2 + random.nextInt(3);
                text.append(blanks(random)).append("copies").append(blanks(random)).append(n).append(";");
            }
            int items = random.nextInt(4);
            for (int i = 0; i < items; i++) {
                text.append(blanks(random)).append("bounds").append(blanks(random)).append(random.nextInt(n));
                text.append(' ').append(random.nextInt(random.nextBoolean() ? 100 : 30));
                text.append(' ').append(random.nextInt(random.nextBoolean() ? 10 : 3)).append(blanks(random));
                text.append(' ').append(random.nextInt(random.nextBoolean() ? 100 : 8)).append(blanks(random)).append(";");
            }
            text.append(blanks(random));
            if (random.nextInt(3) == 0) {
                spoil(text, random);
            }
            return text.toString();
        }

        static String blanks(Random random) {
            return random.nextInt(4) == 0 ? "  ".substring(random.nextInt(2)) : "";
        }

        static void spoil(StringBuilder text, Random random) {
            String odd = "0123456789;; cbzA\t" + (char) 255;
            for (int i = random.nextInt(3); i >= 0 && text.length() > 0; i--) {
                int at = random.nextInt(text.length());
                switch (random.nextInt(5)) {
                    case 0: text.setCharAt(at, odd.charAt(random.nextInt(odd.length()))); break;
                    case 1: text.insert(at, odd.charAt(random.nextInt(odd.length()))); break;
                    case 2: text.deleteCharAt(at); break;
                    case 3: text.setLength(at); break;
                    default: text.append("copies 2;"); break;
                }
            }
        }
    }

    /** One object and its model, side by side. */
    private static final class Run {
        final StaleBounds real = new StaleBounds();
        final Model model = new Model();
        final StringBuilder told = new StringBuilder();
        int calls = 0;
        boolean failed = false;

        Run(int number) {
            if (number % 10 == 0) {
                askAll();
            }
        }

        void call(int which, int... a) {
            if (failed || calls >= 512) {
                return;
            }
            calls++;
            int got = answer(which, a);
            int want = model.answer(NAMES[which], a);
            told.append(NAMES[which]).append(Arrays.toString(a)).append(" answered ").append(got).append('\n');
            if (got != want) {
                failed = true;
                told.append("due is ").append(want);
            }
        }

        int answer(int which, int[] a) {
            switch (NAMES[which]) {
                case "type": return real.type(a[0]);
                case "clear": return real.clear();
                case "tells": return real.tells();
                case "accepts": return real.accepts(a[0], a[1]);
                case "passes": return real.passes(a[0]);
                case "pulls": return real.pulls(a[0], a[1]);
                case "reads": return real.reads(a[0]);
                case "moves": return real.moves(a[0], a[1], a[2], a[3]);
                case "evens": return real.evens(a[0]);
                case "bounds": return real.bounds(a[0], a[1], a[2], a[3]);
                case "undo": return real.undo();
                case "copy": return real.copy(a[0], a[1]);
                case "pair": return real.pair(a[0], a[1], a[2]);
                case "write": return real.write(a[0], a[1]);
                case "costs": return real.costs(a[0], a[1]);
                case "sees": return real.sees(a[0], a[1]);
                case "forget": return real.forget();
                case "which": return real.which();
                case "ask": return real.ask();
                case "keep": return real.keep(a[0]);
                case "back": return real.back(a[0]);
                default: return real.count(a[0]);
            }
        }

        /** Questions change nothing, so they may be asked without being counted as calls of the run. */
        void askAll() {
            int before = calls;
            for (int what = -1; what < 11; what++) {
                for (int a = -1; a < 5; a++) {
                    call(11, a, what);
                    for (int c = -1; c < 5; c++) {
                        call(12, a, c, what);
                    }
                }
                for (int w = -1; w < 25; w++) {
                    call(13, w, what);
                }
                call(21, what);
                calls = before;
            }
            call(17);
            call(18);
        }
    }

    private static final class Write {
        final int by;
        final int weight;
        final int at;

        Write(int by, int weight, int at) {
            this.by = by;
            this.weight = weight;
            this.at = at;
        }
    }

    private static final class World {
        int n = 3;
        int time = 0;
        int[][] bound = {{99, 9, 99}, {99, 9, 99}, {99, 9, 99}, {99, 9, 99}};
        List<Write> writes = new ArrayList<>();
        List<TreeSet<Integer>> knows = sets();
        List<TreeSet<Integer>> fast = sets();
        Map<String, Integer> heard = new HashMap<>();
        Map<String, Integer> budget = new HashMap<>();

        static List<TreeSet<Integer>> sets() {
            List<TreeSet<Integer>> all = new ArrayList<>();
            for (int i = 0; i < 4; i++) {
                all.add(new TreeSet<>());
            }
            return all;
        }

        World twin() {
            World w = new World();
            w.n = n;
            w.time = time;
            for (int i = 0; i < 4; i++) {
                w.bound[i] = bound[i].clone();
                w.knows.get(i).addAll(knows.get(i));
                w.fast.get(i).addAll(fast.get(i));
            }
            w.writes.addAll(writes);
            w.heard.putAll(heard);
            w.budget.putAll(budget);
            return w;
        }

        List<Integer> others(int a) {
            List<Integer> all = new ArrayList<>();
            for (int c = 0; c < n; c++) {
                if (c != a) {
                    all.add(c);
                }
            }
            return all;
        }

        int heard(int a, int of) {
            return heard.getOrDefault(a + " of " + of, 0);
        }

        void hear(int a, int of, int upTo) {
            heard.put(a + " of " + of, upTo);
        }

        int budget(int c, int a) {
            return budget.get(c + " for " + a);
        }

        /** One at a time to the lowest, then round again: the same as a share and what is left over. */
        Map<Integer, Integer> deal(int total, int a) {
            Map<Integer, Integer> got = new HashMap<>();
            List<Integer> all = others(a);
            for (int c : all) {
                got.put(c, 0);
            }
            for (int i = 0; i < total; i++) {
                got.merge(all.get(i % all.size()), 1, Integer::sum);
            }
            return got;
        }

        void budgetsAtFirst(int a) {
            deal(bound[a][0], a).forEach((c, share) -> budget.put(c + " for " + a, share));
        }

        int owed(int c, int a) {
            int total = 0;
            for (int w = 0; w < writes.size(); w++) {
                if (writes.get(w).by == c && !knows.get(a).contains(w)) {
                    total += writes.get(w).weight;
                }
            }
            return total;
        }

        int left(int c, int a) {
            return budget(c, a) - owed(c, a);
        }

        void push(int c, int a) {
            for (int w = 0; w < writes.size(); w++) {
                if (writes.get(w).by == c) {
                    knows.get(a).add(w);
                    if (a == 0) {
                        fast.get(a).add(w);
                    }
                }
            }
            hear(a, c, time);
        }

        int accepted(int c, int weight) {
            writes.add(new Write(c, weight, time));
            knows.get(c).add(writes.size() - 1);
            if (c == 0) {
                fast.get(c).add(writes.size() - 1);
            }
            int pushes = 0;
            for (int a : others(c)) {
                if (owed(c, a) > budget(c, a)) {
                    push(c, a);
                    pushes++;
                }
            }
            return pushes;
        }

        int pulled(int a, int c) {
            int more = 0;
            for (int w : knows.get(c)) {
                more += knows.get(a).add(w) ? 1 : 0;
            }
            fast.get(a).addAll(a == 0 ? knows.get(0) : fast.get(c));
            hear(a, c, time);
            for (int b : others(a)) {
                if (b != c && heard(c, b) > heard(a, b)) {
                    hear(a, b, heard(c, b));
                }
            }
            return more;
        }

        int read(int a) {
            int times = 0;
            for (int c : others(a)) {
                if (heard(a, c) < time - bound[a][2]) {
                    pulled(a, c);
                    times++;
                }
            }
            if (notFast(a) > bound[a][1]) {
                pulled(0, a);
                pulled(a, 0);
                times += 2;
            }
            return times;
        }

        int notFast(int a) {
            TreeSet<Integer> rest = new TreeSet<>(knows.get(a));
            rest.removeAll(fast.get(a));
            return rest.size();
        }

        int sum(int a) {
            return knows.get(a).stream().mapToInt(w -> writes.get(w).weight).sum();
        }

        int all() {
            return writes.stream().mapToInt(w -> w.weight).sum();
        }

        int evened(int a) {
            int total = 0;
            for (int c : others(a)) {
                total += left(c, a);
            }
            deal(total, a).forEach((c, share) -> budget.put(c + " for " + a, owed(c, a) + share));
            return total;
        }

        int boundAnew(int a, int number, int order, int age) {
            boolean another = number != bound[a][0];
            bound[a] = new int[] {number, order, age};
            if (another) {
                budgetsAtFirst(a);
            }
            int pushes = 0;
            for (int c : others(a)) {
                if (left(c, a) < 0) {
                    push(c, a);
                    pushes++;
                }
            }
            return pushes;
        }
    }

    private static final class Model {
        static final int BAD = -1, STATE = -2, FULL = -3, NONE = -9;
        World now = new World();
        final Deque<World> done = new ArrayDeque<>();
        final World[] images = new World[2];
        final List<int[]> seen = new ArrayList<>();
        String text = "";

        Model() {
            for (int a = 0; a < 3; a++) {
                now.budgetsAtFirst(a);
            }
        }

        boolean is(int number, int least, int most) {
            return number >= least && number <= most;
        }

        boolean isCopy(int c) {
            return is(c, 0, now.n - 1);
        }

        void remember() {
            done.push(now.twin());
            if (done.size() > 8) {
                done.removeLast();
            }
        }

        int answer(String name, int[] a) {
            switch (name) {
                case "type":
                    if (!is(a[0], 0, 255)) {
                        return BAD;
                    }
                    if (text.length() == 80) {
                        return FULL;
                    }
                    text += (char) a[0];
                    return text.length();
                case "clear": {
                    int had = text.length();
                    text = "";
                    return had;
                }
                case "tells": return tells();
                case "undo":
                    if (done.isEmpty()) {
                        return STATE;
                    }
                    now = done.pop();
                    return done.size();
                case "copy": return copy(a[0], a[1]);
                case "pair": return pair(a[0], a[1], a[2]);
                case "write": return write(a[0], a[1]);
                case "costs": return costs(a[0], a[1]);
                case "sees":
                    if (!is(a[0], 0, 2) || !is(a[1], 0, 999)) {
                        return BAD;
                    }
                    if (seen.size() == 6) {
                        return FULL;
                    }
                    seen.add(a.clone());
                    return seen.size();
                case "forget": {
                    int had = seen.size();
                    seen.clear();
                    return had;
                }
                case "which": return bits(which());
                case "ask": return ask();
                case "keep":
                    if (!is(a[0], 0, 1)) {
                        return BAD;
                    }
                    images[a[0]] = now.twin();
                    return now.time;
                case "back":
                    if (!is(a[0], 0, 1)) {
                        return BAD;
                    }
                    if (images[a[0]] == null) {
                        return STATE;
                    }
                    now = images[a[0]].twin();
                    done.clear();
                    return now.time;
                case "count": return count(a[0]);
                default: return does(name, a);
            }
        }

        int does(String name, int[] a) {
            int refusal = refusal(name, a);
            if (refusal != 0) {
                return refusal;
            }
            remember();
            switch (name) {
                case "accepts": return now.accepted(a[0], a[1]);
                case "passes": now.time += a[0]; return now.time;
                case "pulls": return now.pulled(a[0], a[1]);
                case "reads": return now.read(a[0]);
                case "moves":
                    now.budget.merge(a[1] + " for " + a[0], -a[3], Integer::sum);
                    now.budget.merge(a[2] + " for " + a[0], a[3], Integer::sum);
                    return now.budget(a[1], a[0]);
                case "evens": return now.evened(a[0]);
                default: return now.boundAnew(a[0], a[1], a[2], a[3]);
            }
        }

        int refusal(String name, int[] a) {
            if (!name.equals("passes") && !isCopy(a[0])) {
                return BAD;
            }
            switch (name) {
                case "accepts":
                    return !is(a[1], 1, 9) ? BAD : now.writes.size() == 24 ? FULL : 0;
                case "passes":
                    return !is(a[0], 1, 99) ? BAD : now.time + a[0] > 999 ? STATE : 0;
                case "pulls":
                    return !isCopy(a[1]) || a[0] == a[1] ? BAD : 0;
                case "moves":
                    if (!isCopy(a[1]) || !isCopy(a[2]) || a[0] == a[1] || a[0] == a[2] || a[1] == a[2]) {
                        return BAD;
                    }
                    return !is(a[3], 1, 99) ? BAD : now.left(a[1], a[0]) < a[3] ? STATE : 0;
                case "bounds":
                    if (!is(a[1], 0, 99) || !is(a[2], 0, 9) || !is(a[3], 0, 99)) {
                        return BAD;
                    }
                    return Arrays.equals(now.bound[a[0]], Arrays.copyOfRange(a, 1, 4)) ? STATE : 0;
                default: return 0;
            }
        }

        int tells() {
            World told = new World();
            Matcher tokens = Pattern.compile("[a-z]+|[0-9]+|[^ ]", Pattern.DOTALL).matcher(text);
            // What may stand next: w a word, n the copies, 0 to 3 the numbers of bounds, s a semicolon.
            char next = 'w';
            int items = 0;
            int copy = 0;
            boolean copiesMay = true;
            while (tokens.find()) {
                String token = tokens.group();
                int value = token.matches("0|[1-9][0-9]?") ? Integer.parseInt(token) : -1;
                boolean may;
                switch (next) {
                    case 'w':
                        may = token.equals("bounds") || copiesMay && token.equals("copies");
                        next = token.equals("bounds") ? '0' : 'n';
                        copiesMay = false;
                        break;
                    case 'n':
                        may = is(value, 2, 4);
                        told.n = value;
                        next = 's';
                        break;
                    case '0':
                        may = is(value, 0, told.n - 1);
                        copy = value;
                        next = '1';
                        break;
                    case '1': case '2': case '3':
                        may = is(value, 0, next == '2' ? 9 : 99);
                        told.bound[copy][next - '1'] = value;
                        next = next == '3' ? 's' : (char) (next + 1);
                        break;
                    default:
                        may = token.equals(";");
                        next = 'w';
                        items++;
                        break;
                }
                if (!may) {
                    return -10 - tokens.start();
                }
            }
            if (next != 'w') {
                return -10 - text.length();
            }
            for (int a = 0; a < told.n; a++) {
                told.budgetsAtFirst(a);
            }
            remember();
            now = told;
            text = "";
            return items;
        }

        int of(int c, int what) {
            return what == 0 ? now.sum(c) : what == 1 ? now.notFast(c) : now.twin().read(c);
        }

        int copy(int c, int what) {
            if (!isCopy(c) || !is(what, 0, 9)) {
                return BAD;
            }
            switch (what) {
                case 0: case 1: case 2: return now.bound[c][what];
                case 3: return bits(now.knows.get(c));
                case 4: return bits(now.fast.get(c));
                case 5: return now.sum(c);
                case 6: return now.all() - now.sum(c);
                case 7: return now.notFast(c);
                case 8: return of(c, 2);
                default: return now.others(c).stream().mapToInt(a -> now.left(c, a)).min().getAsInt();
            }
        }

        int pair(int a, int c, int what) {
            if (!isCopy(a) || !isCopy(c) || a == c || !is(what, 0, 3)) {
                return BAD;
            }
            int[] all = {now.heard(a, c), now.budget(c, a), now.owed(c, a), now.left(c, a)};
            return all[what];
        }

        int write(int w, int what) {
            if (!is(w, 0, now.writes.size() - 1) || !is(what, 0, 4)) {
                return BAD;
            }
            TreeSet<Integer> know = new TreeSet<>();
            TreeSet<Integer> fast = new TreeSet<>();
            for (int c = 0; c < now.n; c++) {
                if (now.knows.get(c).contains(w)) {
                    know.add(c);
                }
                if (now.fast.get(c).contains(w)) {
                    fast.add(c);
                }
            }
            Write it = now.writes.get(w);
            int[] all = {it.by, it.weight, it.at, bits(know), bits(fast)};
            return all[what];
        }

        int costs(int c, int weight) {
            return !isCopy(c) || !is(weight, 1, 999) ? BAD : now.twin().accepted(c, weight);
        }

        TreeSet<Integer> which() {
            TreeSet<Integer> can = new TreeSet<>();
            for (int c = 0; c < now.n; c++) {
                int copy = c;
                if (seen.stream().allMatch(s -> of(copy, s[0]) == s[1])) {
                    can.add(c);
                }
            }
            return can;
        }

        int ask() {
            TreeSet<Integer> can = which();
            if (can.size() <= 1) {
                return NONE;
            }
            int[] greatest = new int[3];
            for (int what = 0; what < 3; what++) {
                Map<Integer, Integer> groups = new HashMap<>();
                for (int c : can) {
                    greatest[what] = Math.max(greatest[what], groups.merge(of(c, what), 1, Integer::sum));
                }
            }
            int least = Arrays.stream(greatest).min().getAsInt();
            return greatest[0] == least ? 0 : greatest[1] == least ? 1 : 2;
        }

        int count(int what) {
            if (!is(what, 0, 7)) {
                return BAD;
            }
            TreeSet<Integer> whole = new TreeSet<>();
            for (int c = 0; c < now.n; c++) {
                if (now.knows.get(c).size() == now.writes.size()) {
                    whole.add(c);
                }
            }
            int[] all = {now.n, now.time, now.writes.size(), now.all(), bits(whole), seen.size(), text.length(),
                done.size()};
            return all[what];
        }

        static int bits(TreeSet<Integer> set) {
            return set.stream().mapToInt(i -> 1 << i).sum();
        }
    }
}
