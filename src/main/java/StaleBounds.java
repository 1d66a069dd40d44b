import java.util.Arrays;

/** Copies of one sum that may be stale, but only so far. ../shared/DOC.md tells each promise. */
public final class StaleBounds {
    public static final int BAD = -1, STATE = -2, FULL = -3, NONE = -9;

    private static final int LEAST_COPIES = 2, FIRST_COPIES = 3, MOST_COPIES = 4;
    private static final int MOST_NUMBER = 99, MOST_ORDER = 9, MOST_AGE = 99;
    private static final int MOST_TIME = 999, MOST_PASSED = 99, MOST_MOVED = 99;
    private static final int MOST_WRITES = 24, MOST_WEIGHT = 9, MOST_ASKED_WEIGHT = 999;
    private static final int MOST_LETTERS = 80, LAST_LETTER = 255, MOST_FIGURES = 2;
    private static final int MOST_UNDONE = 8, IMAGES = 2;
    private static final int SEEN_SUM = 0, SEEN_SLOW = 1, SEEN_PULLS = 2, KINDS_SEEN = 3;
    private static final int MOST_SEEN = 6, MOST_SEEN_NUMBER = 999;
    private static final int FAULT_BASE = -10;

    private final Ledger now = new Ledger();
    // What is only tried out (a text not yet found right, a read not done) is worked out here.
    private final Ledger trial = new Ledger();
    private final History history = new History();
    private final Text text = new Text();
    private final Ledger[] images = new Ledger[IMAGES];
    private final boolean[] kept = new boolean[IMAGES];
    private final int[] seenWhat = new int[MOST_SEEN];
    private final int[] seenNumber = new int[MOST_SEEN];
    private int seen = 0;
    private final int[] answers = new int[MOST_COPIES];

    public StaleBounds() {
        for (int i = 0; i < IMAGES; i++) {
            images[i] = new Ledger();
        }
    }

    // ---- what is told

    public int type(int letter) {
        if (letter < 0 || letter > LAST_LETTER) {
            return BAD;
        }
        if (text.length >= MOST_LETTERS) {
            return FULL;
        }
        text.add((char) letter);
        return text.length;
    }

    public int clear() {
        return text.drop();
    }

    public int tells() {
        int items = text.tellInto(trial);
        if (items < 0) {
            return items;
        }
        history.remember(now);
        now.takeFrom(trial);
        text.drop();
        return items;
    }

    // ---- what is done

    public int accepts(int copy, int weight) {
        if (!isCopy(copy) || weight < 1 || weight > MOST_WEIGHT) {
            return BAD;
        }
        if (now.writes >= MOST_WRITES) {
            return FULL;
        }
        history.remember(now);
        return now.accept(copy, weight);
    }

    public int passes(int n) {
        if (n < 1 || n > MOST_PASSED) {
            return BAD;
        }
        if (now.time + n > MOST_TIME) {
            return STATE;
        }
        history.remember(now);
        now.time += n;
        return now.time;
    }

    public int pulls(int copy, int from) {
        if (!arePair(copy, from)) {
            return BAD;
        }
        history.remember(now);
        int before = Integer.bitCount(now.knows[copy]);
        now.pull(copy, from);
        return Integer.bitCount(now.knows[copy]) - before;
    }

    public int reads(int copy) {
        if (!isCopy(copy)) {
            return BAD;
        }
        history.remember(now);
        return now.read(copy);
    }

    public int moves(int a, int c, int d, int k) {
        if (!arePair(a, c) || !arePair(a, d) || c == d || k < 1 || k > MOST_MOVED) {
            return BAD;
        }
        if (now.left(c, a) < k) {
            return STATE;
        }
        history.remember(now);
        return now.move(a, c, d, k);
    }

    public int evens(int a) {
        if (!isCopy(a)) {
            return BAD;
        }
        history.remember(now);
        return now.even(a);
    }

    public int bounds(int copy, int number, int order, int age) {
        if (!isCopy(copy) || number < 0 || number > MOST_NUMBER
                || order < 0 || order > MOST_ORDER || age < 0 || age > MOST_AGE) {
            return BAD;
        }
        if (now.isBound(copy, number, order, age)) {
            return STATE;
        }
        history.remember(now);
        return now.bindAnew(copy, number, order, age);
    }

    public int undo() {
        if (history.known < 1) {
            return STATE;
        }
        history.restore(now);
        return history.known;
    }

    // ---- asked

    public int copy(int copy, int what) {
        if (!isCopy(copy)) {
            return BAD;
        }
        switch (what) {
            case 0: return now.number[copy];
            case 1: return now.order[copy];
            case 2: return now.age[copy];
            case 3: return now.knows[copy];
            case 4: return now.fast[copy];
            case 5: return answerOf(copy, SEEN_SUM);
            case 6: return now.lack(copy);
            case 7: return answerOf(copy, SEEN_SLOW);
            case 8: return answerOf(copy, SEEN_PULLS);
            case 9: return now.spare(copy);
            default: return BAD;
        }
    }

    public int pair(int a, int c, int what) {
        if (!arePair(a, c)) {
            return BAD;
        }
        switch (what) {
            case 0: return now.heard[slot(a, c)];
            case 1: return now.budget[slot(a, c)];
            case 2: return now.owed(c, a);
            case 3: return now.left(c, a);
            default: return BAD;
        }
    }

    public int write(int write, int what) {
        if (write < 0 || write >= now.writes) {
            return BAD;
        }
        switch (what) {
            case 0: return now.acceptedBy[write];
            case 1: return now.weight[write];
            case 2: return now.acceptedAt[write];
            case 3: return now.copiesWith(now.knows, 1 << write);
            case 4: return now.copiesWith(now.fast, 1 << write);
            default: return BAD;
        }
    }

    public int costs(int copy, int weight) {
        if (!isCopy(copy) || weight < 1 || weight > MOST_ASKED_WEIGHT) {
            return BAD;
        }
        return now.pushesFor(copy, weight);
    }

    // ---- which copy

    public int sees(int what, int n) {
        if (what < 0 || what >= KINDS_SEEN || n < 0 || n > MOST_SEEN_NUMBER) {
            return BAD;
        }
        if (seen >= MOST_SEEN) {
            return FULL;
        }
        seenWhat[seen] = what;
        seenNumber[seen] = n;
        seen++;
        return seen;
    }

    public int forget() {
        int had = seen;
        seen = 0;
        return had;
    }

    public int which() {
        int fitting = 0;
        for (int c = 0; c < now.copies; c++) {
            if (fitsAllSeen(c)) {
                fitting |= 1 << c;
            }
        }
        return fitting;
    }

    public int ask() {
        int fitting = which();
        if (Integer.bitCount(fitting) <= 1) {
            return NONE;
        }
        int best = NONE;
        int least = MOST_COPIES + 1;
        for (int what = 0; what < KINDS_SEEN; what++) {
            int alike = mostAlike(fitting, what);
            if (alike < least) {
                least = alike;
                best = what;
            }
        }
        return best;
    }

    // ---- images

    public int keep(int image) {
        if (image < 0 || image >= IMAGES) {
            return BAD;
        }
        images[image].takeFrom(now);
        kept[image] = true;
        return now.time;
    }

    public int back(int image) {
        if (image < 0 || image >= IMAGES) {
            return BAD;
        }
        if (!kept[image]) {
            return STATE;
        }
        now.takeFrom(images[image]);
        history.lose();
        return now.time;
    }

    public int count(int what) {
        switch (what) {
            case 0: return now.copies;
            case 1: return now.time;
            case 2: return now.writes;
            case 3: return now.weightOf(now.allWrites());
            case 4: return now.copiesWith(now.knows, now.allWrites());
            case 5: return seen;
            case 6: return text.length;
            case 7: return history.known;
            default: return BAD;
        }
    }

    private boolean isCopy(int copy) {
        return copy >= 0 && copy < now.copies;
    }

    private boolean arePair(int a, int c) {
        return isCopy(a) && isCopy(c) && a != c;
    }

    private int answerOf(int copy, int what) {
        switch (what) {
            case SEEN_SUM: return now.sum(copy);
            case SEEN_SLOW: return now.slow(copy);
            case SEEN_PULLS:
                trial.takeFrom(now);
                return trial.read(copy);
            default: return NONE;
        }
    }

    private boolean fitsAllSeen(int copy) {
        for (int i = 0; i < seen; i++) {
            if (answerOf(copy, seenWhat[i]) != seenNumber[i]) {
                return false;
            }
        }
        return true;
    }

    private int mostAlike(int fitting, int what) {
        for (int c = 0; c < now.copies; c++) {
            answers[c] = answerOf(c, what);
        }
        int most = 0;
        for (int c = 0; c < now.copies; c++) {
            if (hasBit(fitting, c)) {
                most = Math.max(most, alikeWith(fitting, answers[c]));
            }
        }
        return most;
    }

    private int alikeWith(int fitting, int answer) {
        int alike = 0;
        for (int c = 0; c < now.copies; c++) {
            if (hasBit(fitting, c) && answers[c] == answer) {
                alike++;
            }
        }
        return alike;
    }

    private static boolean hasBit(int bits, int place) {
        return (bits >> place & 1) == 1;
    }

    /** Where what COPY a has of COPY c stands, in rows that hold one number for each two copies. */
    private static int slot(int a, int c) {
        return a * MOST_COPIES + c;
    }

    /** All that part 1 of the document tells but THE TEXT: what is undone and what images keep. */
    private static final class Ledger {
        int copies;
        int time;
        int writes;
        final int[] number = new int[MOST_COPIES];
        final int[] order = new int[MOST_COPIES];
        final int[] age = new int[MOST_COPIES];
        final int[] knows = new int[MOST_COPIES];
        final int[] fast = new int[MOST_COPIES];
        final int[] heard = new int[MOST_COPIES * MOST_COPIES];
        final int[] budget = new int[MOST_COPIES * MOST_COPIES];
        final int[] acceptedBy = new int[MOST_WRITES];
        final int[] acceptedAt = new int[MOST_WRITES];
        final int[] weight = new int[MOST_WRITES];

        Ledger() {
            startAnew();
            splitAllNumbers();
        }

        /** As at first, but for the budgets: these wait until the copies and bounds are known. */
        void startAnew() {
            copies = FIRST_COPIES;
            time = 0;
            writes = 0;
            Arrays.fill(number, MOST_NUMBER);
            Arrays.fill(order, MOST_ORDER);
            Arrays.fill(age, MOST_AGE);
            Arrays.fill(knows, 0);
            Arrays.fill(fast, 0);
            Arrays.fill(heard, 0);
        }

        void takeFrom(Ledger other) {
            copies = other.copies;
            time = other.time;
            writes = other.writes;
            System.arraycopy(other.number, 0, number, 0, MOST_COPIES);
            System.arraycopy(other.order, 0, order, 0, MOST_COPIES);
            System.arraycopy(other.age, 0, age, 0, MOST_COPIES);
            System.arraycopy(other.knows, 0, knows, 0, MOST_COPIES);
            System.arraycopy(other.fast, 0, fast, 0, MOST_COPIES);
            System.arraycopy(other.heard, 0, heard, 0, MOST_COPIES * MOST_COPIES);
            System.arraycopy(other.budget, 0, budget, 0, MOST_COPIES * MOST_COPIES);
            System.arraycopy(other.acceptedBy, 0, acceptedBy, 0, MOST_WRITES);
            System.arraycopy(other.acceptedAt, 0, acceptedAt, 0, MOST_WRITES);
            System.arraycopy(other.weight, 0, weight, 0, MOST_WRITES);
        }

        void setBounds(int a, int newNumber, int newOrder, int newAge) {
            number[a] = newNumber;
            order[a] = newOrder;
            age[a] = newAge;
        }

        boolean isBound(int a, int asNumber, int asOrder, int asAge) {
            return number[a] == asNumber && order[a] == asOrder && age[a] == asAge;
        }

        void splitAllNumbers() {
            for (int a = 0; a < copies; a++) {
                splitNumber(a);
            }
        }

        void splitNumber(int a) {
            for (int c = 0; c < copies; c++) {
                if (c != a) {
                    budget[slot(a, c)] = shareOf(number[a], a, c);
                }
            }
        }

        /** What c gets when a total is split among all copies but a. */
        int shareOf(int total, int a, int c) {
            int parts = copies - 1;
            if (parts < 1) {
                return 0;
            }
            int rank = c > a ? c - 1 : c;
            return total / parts + (rank < total % parts ? 1 : 0);
        }

        int allWrites() {
            return (1 << writes) - 1;
        }

        int weightOf(int some) {
            int total = 0;
            for (int w = 0; w < writes; w++) {
                if (hasBit(some, w)) {
                    total += weight[w];
                }
            }
            return total;
        }

        int writesBy(int c) {
            int own = 0;
            for (int w = 0; w < writes; w++) {
                if (acceptedBy[w] == c) {
                    own |= 1 << w;
                }
            }
            return own;
        }

        int sum(int c) {
            return weightOf(knows[c]);
        }

        int lack(int c) {
            return weightOf(allWrites() & ~knows[c]);
        }

        int slow(int c) {
            return Integer.bitCount(knows[c] & ~fast[c]);
        }

        int owed(int c, int a) {
            return weightOf(writesBy(c) & ~knows[a]);
        }

        int left(int c, int a) {
            return budget[slot(a, c)] - owed(c, a);
        }

        int spare(int c) {
            // All budgets for one copy are its number together, however moved or evened.
            int least = MOST_NUMBER;
            for (int a = 0; a < copies; a++) {
                if (a != c) {
                    least = Math.min(least, left(c, a));
                }
            }
            return least;
        }

        int copiesWith(int[] writesOf, int some) {
            int bits = 0;
            for (int c = 0; c < copies; c++) {
                if ((writesOf[c] & some) == some) {
                    bits |= 1 << c;
                }
            }
            return bits;
        }

        int pushesFor(int c, int more) {
            int pushes = 0;
            for (int a = 0; a < copies; a++) {
                if (a != c && left(c, a) < more) {
                    pushes++;
                }
            }
            return pushes;
        }

        /** The caller has looked that there is room for one more. */
        int accept(int c, int ofWeight) {
            acceptedBy[writes] = c;
            acceptedAt[writes] = time;
            weight[writes] = ofWeight;
            learn(c, 1 << writes);
            writes++;
            int pushes = 0;
            for (int a = 0; a < copies; a++) {
                if (a != c && pushIfOver(c, a)) {
                    pushes++;
                }
            }
            return pushes;
        }

        boolean pushIfOver(int c, int a) {
            if (left(c, a) >= 0) {
                return false;
            }
            learn(a, writesBy(c));
            heard[slot(a, c)] = time;
            return true;
        }

        /** All that COPY 0 knows is fast for it, however it came to know it. */
        void learn(int a, int some) {
            knows[a] |= some;
            fast[0] = knows[0];
        }

        void pull(int a, int c) {
            learn(a, knows[c]);
            fast[a] |= fast[c];
            heard[slot(a, c)] = time;
            for (int b = 0; b < copies; b++) {
                if (b != a && b != c) {
                    heard[slot(a, b)] = Math.max(heard[slot(a, b)], heard[slot(c, b)]);
                }
            }
        }

        int read(int a) {
            int pulled = 0;
            for (int c = 0; c < copies; c++) {
                if (c != a && time - heard[slot(a, c)] > age[a]) {
                    pull(a, c);
                    pulled++;
                }
            }
            if (slow(a) > order[a]) {
                pull(0, a);
                pull(a, 0);
                pulled += 2;
            }
            return pulled;
        }

        int move(int a, int c, int d, int k) {
            budget[slot(a, c)] -= k;
            budget[slot(a, d)] += k;
            return budget[slot(a, c)];
        }

        int even(int a) {
            int total = 0;
            for (int c = 0; c < copies; c++) {
                if (c != a) {
                    total += left(c, a);
                }
            }
            for (int c = 0; c < copies; c++) {
                if (c != a) {
                    budget[slot(a, c)] = owed(c, a) + shareOf(total, a, c);
                }
            }
            return total;
        }

        int bindAnew(int a, int newNumber, int newOrder, int newAge) {
            boolean other = number[a] != newNumber;
            setBounds(a, newNumber, newOrder, newAge);
            if (other) {
                splitNumber(a);
            }
            int pushes = 0;
            for (int c = 0; c < copies; c++) {
                if (c != a && pushIfOver(c, a)) {
                    pushes++;
                }
            }
            return pushes;
        }
    }

    /** The ledgers ahead of the latest calls that can be undone, in a ring that loses the oldest. */
    private static final class History {
        final Ledger[] earlier = new Ledger[MOST_UNDONE];
        int next = 0;
        int known = 0;

        History() {
            for (int i = 0; i < MOST_UNDONE; i++) {
                earlier[i] = new Ledger();
            }
        }

        void remember(Ledger ledger) {
            earlier[next].takeFrom(ledger);
            next = next + 1 < MOST_UNDONE ? next + 1 : 0;
            known = Math.min(known + 1, MOST_UNDONE);
        }

        void lose() {
            known = 0;
        }

        /** The caller has looked that one is known. */
        void restore(Ledger ledger) {
            next = next > 0 ? next - 1 : MOST_UNDONE - 1;
            known--;
            ledger.takeFrom(earlier[next]);
        }
    }

    /** THE TEXT, and the row of its tokens, of which the last one is its end. */
    private static final class Text {
        private static final int END = 0, COPIES_WORD = 1, BOUNDS_WORD = 2, FIGURES = 3,
                SEMICOLON = 4, WRONG = 5;

        final char[] letters = new char[MOST_LETTERS];
        int length = 0;
        final int[] kinds = new int[MOST_LETTERS + 1];
        final int[] starts = new int[MOST_LETTERS + 1];
        final int[] values = new int[MOST_LETTERS + 1];
        int token = 0;

        /** The caller has looked that there is room for one more. */
        void add(char letter) {
            letters[length] = letter;
            length++;
        }

        int drop() {
            int had = length;
            length = 0;
            return had;
        }

        /** How many items were told into the ledger; below 0, it is spoilt, and this tells the fault. */
        int tellInto(Ledger told) {
            findTokens();
            told.startAnew();
            token = 0;
            int items = 0;
            while (kinds[token] != END && items < MOST_LETTERS) {
                if (!tellItem(told, items == 0)) {
                    return FAULT_BASE - starts[token];
                }
                items++;
            }
            told.splitAllNumbers();
            return items;
        }

        /** If it can't be told, the token is the one that can't stand there. */
        boolean tellItem(Ledger told, boolean first) {
            if (first && passKind(COPIES_WORD)) {
                return tellCopies(told);
            }
            return passKind(BOUNDS_WORD) && tellBounds(told);
        }

        boolean tellCopies(Ledger told) {
            if (!passNumber(LEAST_COPIES, MOST_COPIES)) {
                return false;
            }
            told.copies = values[token - 1];
            return passKind(SEMICOLON);
        }

        boolean tellBounds(Ledger told) {
            boolean numbers = passNumber(0, told.copies - 1) && passNumber(0, MOST_NUMBER)
                    && passNumber(0, MOST_ORDER) && passNumber(0, MOST_AGE);
            if (!numbers) {
                return false;
            }
            told.setBounds(values[token - 4], values[token - 3], values[token - 2], values[token - 1]);
            return passKind(SEMICOLON);
        }

        /** None of the two goes beyond the end: it is of no kind that is asked for. */
        boolean passKind(int kind) {
            if (kinds[token] != kind) {
                return false;
            }
            token++;
            return true;
        }

        boolean passNumber(int least, int most) {
            if (kinds[token] != FIGURES || values[token] < least || values[token] > most) {
                return false;
            }
            token++;
            return true;
        }

        void findTokens() {
            int found = 0;
            int place = 0;
            while (place < length && found < MOST_LETTERS) {
                if (letters[place] == ' ') {
                    place++;
                } else {
                    starts[found] = place;
                    place = takeToken(found, place);
                    found++;
                }
            }
            kinds[found] = END;
            starts[found] = length;
        }

        /** The place behind the token that starts at this one. */
        int takeToken(int found, int place) {
            if (isSmallLetter(letters[place])) {
                return takeWord(found, place);
            }
            if (isFigure(letters[place])) {
                return takeFigures(found, place);
            }
            kinds[found] = letters[place] == ';' ? SEMICOLON : WRONG;
            return place + 1;
        }

        int takeWord(int found, int start) {
            int end = start;
            while (end < length && isSmallLetter(letters[end])) {
                end++;
            }
            if (spells("copies", start, end)) {
                kinds[found] = COPIES_WORD;
            } else {
                kinds[found] = spells("bounds", start, end) ? BOUNDS_WORD : WRONG;
            }
            return end;
        }

        boolean spells(String word, int start, int end) {
            if (word.length() != end - start) {
                return false;
            }
            for (int i = 0; i < word.length(); i++) {
                if (word.charAt(i) != letters[start + i]) {
                    return false;
                }
            }
            return true;
        }

        int takeFigures(int found, int start) {
            int end = start;
            int value = 0;
            while (end < length && isFigure(letters[end])) {
                // A long row wraps around, but it is wrong whatever its value.
                value = value * 10 + (letters[end] - '0');
                end++;
            }
            int figures = end - start;
            boolean idleZero = figures > 1 && letters[start] == '0';
            kinds[found] = figures > MOST_FIGURES || idleZero ? WRONG : FIGURES;
            values[found] = value;
            return end;
        }

        static boolean isSmallLetter(char letter) {
            return letter >= 'a' && letter <= 'z';
        }

        static boolean isFigure(char letter) {
            return letter >= '0' && letter <= '9';
        }
    }
}
