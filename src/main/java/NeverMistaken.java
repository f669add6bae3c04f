/**
 * A bench for lines that may mistake some letters for others: the largest codes by exact search,
 * bounds on them by covers and by rows of whole numbers, lines joined, rates compared, what came
 * read back, and answers in lists.
 */
public final class NeverMistaken {
    public static final int NONE = -1;
    public static final int RANGE = -2;
    public static final int FULL = -3;
    public static final int STATE = -4;

    private static final int LINES = 8;
    private static final int LETTERS = 24;
    private static final int SIGNS = 24;
    private static final int LENGTHS = 6;
    private static final int WORDS = 64;
    private static final int WORDS_TO_COUNT = 24;
    private static final int LETTERS_TO_LIST = 16;
    private static final int PLACES = 6;
    private static final int GREATEST_NUMBER = 30;
    private static final int NO_SUCH_NUMBER = -31;
    private static final int NO_HANDLE_PRODUCT = 10000;

    private static final int NET = 0;
    private static final int TOLD = 1;
    private static final int RING = 2;

    private final Tape tape = new Tape();
    private final Text text = new Text();
    private final Line[] lines = new Line[LINES];
    private final int[] joined = new int[LETTERS];
    private final Codes codes = new Codes();
    private final Cover cover = new Cover();
    private final Rows rows = new Rows();
    private final Powers powers = new Powers();
    private final Lists lists = new Lists();
    private final Code latestCode = new Code();
    private final int[] latestHeaps = new int[LETTERS];
    private int latestHeapsLetters = 0;
    private int latestSent = NONE;
    private int latestListed = NONE;

    public NeverMistaken() {
        for (int l = 0; l < LINES; l++) {
            lines[l] = new Line();
        }
    }

    // ---- the tape

    public int feed(int a, int b, int c, int d, int e) {
        if (!tape.hasRoomFor(20)) {
            return FULL;
        }
        tape.push(a);
        tape.push(b);
        tape.push(c);
        tape.push(d);
        tape.push(e);
        return tape.length;
    }

    public int end(int n) {
        if (n < 0 || n > tape.length) {
            return NONE;
        }
        tape.length = n;
        return n;
    }

    // ---- lines

    public int net(int l, int n) {
        Line line = lineAt(l);
        if (line == null || n < 1 || n > LETTERS) {
            return RANGE;
        }
        line.renew(NET, n);
        return n;
    }

    public int mistake(int l, int a, int b, boolean on) {
        Line line = lineAt(l);
        if (line == null || !line.has(a) || !line.has(b) || a == b) {
            return RANGE;
        }
        if (line.kind != NET) {
            return STATE;
        }
        if (line.mistakes(a, b) == on) {
            return 0;
        }
        line.flip(a, b);
        line.clearRows();
        return 1;
    }

    public int ring(int l, int n) {
        Line line = lineAt(l);
        if (line == null || n < 3 || n > LETTERS) {
            return RANGE;
        }
        line.renew(RING, n);
        for (int a = 0; a < n; a++) {
            line.flip(a, a + 1 < n ? a + 1 : 0);
        }
        return n;
    }

    public int told(int l) {
        Line line = lineAt(l);
        if (line == null) {
            tape.empty();
            return RANGE;
        }
        text.read(tape);
        tape.empty();
        if (text.fault != 0) {
            return NONE;
        }
        line.renew(TOLD, text.letters);
        line.takeSigns(text.signs);
        return line.letters;
    }

    public int fault(int what) {
        if (what == 0) {
            return text.fault;
        }
        return what == 1 ? text.place : NONE;
    }

    public int both(int l, int m, int to) {
        Line first = lineAt(l);
        Line second = lineAt(m);
        Line target = lineAt(to);
        if (first == null || second == null || target == null) {
            return RANGE;
        }
        int total = first.letters * second.letters;
        if (total > LETTERS) {
            return FULL;
        }
        for (int a = 0; a < first.letters; a++) {
            for (int b = 0; b < second.letters; b++) {
                int pair = a * second.letters + b;
                joined[pair] = pairsNear(first, a, second, b) & ~(1 << pair);
            }
        }
        target.renew(NET, total);
        target.takeNear(joined);
        return total;
    }

    public int either(int l, int m, int to) {
        Line first = lineAt(l);
        Line second = lineAt(m);
        Line target = lineAt(to);
        if (first == null || second == null || target == null) {
            return RANGE;
        }
        int total = first.letters + second.letters;
        if (total > LETTERS) {
            return FULL;
        }
        int behind = first.letters;
        for (int a = 0; a < first.letters; a++) {
            joined[a] = first.near[a];
        }
        for (int b = 0; b < second.letters; b++) {
            joined[behind + b] = second.near[b] << behind;
        }
        target.renew(NET, total);
        target.takeNear(joined);
        return total;
    }

    public int about(int l, int what) {
        Line line = lineAt(l);
        if (line == null) {
            return NONE;
        }
        switch (what) {
            case 0:
                return line.letters;
            case 1:
                return line.kind;
            case 3:
                return line.pairs();
            case 4:
                return line.signsInAll();
            default:
                return aboutLetter(line, what);
        }
    }

    public int taken(int l, int k, int v, int w) {
        Line line = lineAt(l);
        if (line == null || !isLength(k) || v == w) {
            return RANGE;
        }
        int words = wordsInAll(line.letters, k);
        if (v < 0 || w < 0 || v >= words || w >= words) {
            return RANGE;
        }
        int restOfV = v;
        int restOfW = w;
        for (int i = 0; i < k; i++) {
            if (!line.alike(remainder(restOfV, line.letters), remainder(restOfW, line.letters))) {
                return 0;
            }
            restOfV = quotient(restOfV, line.letters);
            restOfW = quotient(restOfW, line.letters);
        }
        return 1;
    }

    // ---- codes

    public int most(int l, int k) {
        Line line = lineAt(l);
        if (line == null || !isLength(k)) {
            return RANGE;
        }
        if (wordsInAll(line.letters, k) > WORDS) {
            return FULL;
        }
        codes.lay(line, k);
        codes.findLargest();
        latestCode.keep(codes.leastLargest(), k, l, line.age);
        return latestCode.size;
    }

    public int word(int i) {
        if (i < 0 || i >= latestCode.size) {
            return NONE;
        }
        return latestCode.words[i];
    }

    public int ways(int l, int k) {
        Line line = lineAt(l);
        if (line == null || !isLength(k)) {
            return RANGE;
        }
        if (wordsInAll(line.letters, k) > WORDS_TO_COUNT) {
            return FULL;
        }
        codes.lay(line, k);
        return codes.countLargest();
    }

    public int heaps(int l) {
        Line line = lineAt(l);
        if (line == null) {
            return RANGE;
        }
        int fewest = fewestHeaps(line);
        cover.leastRow(latestHeaps);
        latestHeapsLetters = line.letters;
        return fewest;
    }

    public int heap(int a) {
        if (a < 0 || a >= latestHeapsLetters) {
            return NONE;
        }
        return latestHeaps[a];
    }

    // ---- rows

    public int row(int l, int a, int i, int v) {
        Line line = lineAt(l);
        if (line == null || (a != NONE && !line.has(a)) || i < 0 || i >= PLACES) {
            return NO_SUCH_NUMBER;
        }
        if (v < -GREATEST_NUMBER || v > GREATEST_NUMBER) {
            return NO_SUCH_NUMBER;
        }
        int[] numbers = line.numbers[a == NONE ? LETTERS : a];
        int was = numbers[i];
        numbers[i] = v;
        return was;
    }

    public int stands(int l) {
        Line line = lineAt(l);
        return line == null ? RANGE : rows.firstFlaw(line);
    }

    public int bound(int l, int what) {
        Line line = lineAt(l);
        if (line == null || what < 0 || what > 2) {
            return RANGE;
        }
        if (!rows.measure(line)) {
            return NONE;
        }
        if (what == 0) {
            return rows.above;
        }
        return what == 1 ? rows.below : rows.letter;
    }

    // ---- rates, what came, lists

    public int compare(int s, int k, int t, int j) {
        if (s < 1 || s > 1000 || t < 1 || t > 1000) {
            return RANGE;
        }
        if (k < 1 || k > 12 || j < 1 || j > 12) {
            return RANGE;
        }
        return powers.hold(s, k, t, j);
    }

    public int best(int l) {
        Line line = lineAt(l);
        if (line == null) {
            return RANGE;
        }
        findBest(line);
        return powers.bestLength;
    }

    public int met(int l) {
        Line line = lineAt(l);
        if (line == null) {
            return RANGE;
        }
        findBest(line);
        int bits = 0;
        if (powers.isPower(powers.bestSize, fewestHeaps(line), powers.bestLength)) {
            bits |= 1;
        }
        // A fraction cut as far as can be has a whole power only if it is whole itself.
        if (rows.measure(line) && rows.below == 1
                && powers.isPower(powers.bestSize, rows.above, powers.bestLength)) {
            bits |= 2;
        }
        return bits;
    }

    public int came(int l) {
        int signs = text.readSigns(tape);
        tape.empty();
        Line line = lineAt(l);
        if (line == null) {
            return RANGE;
        }
        if (line.kind != TOLD || latestCode.line != l || latestCode.age != line.age) {
            return STATE;
        }
        if (signs != latestCode.length) {
            return NONE;
        }
        int made = 0;
        for (int i = 0; i < latestCode.size; i++) {
            if (couldMake(line, latestCode.words[i])) {
                if (made == 0) {
                    latestSent = latestCode.words[i];
                }
                made++;
            }
        }
        return made;
    }

    public int sent() {
        return latestSent;
    }

    public int list(int line, int l) {
        Line from = lineAt(line);
        if (from == null || l < 1 || l > LETTERS) {
            return RANGE;
        }
        if (from.kind != TOLD) {
            return STATE;
        }
        if (from.letters > LETTERS_TO_LIST) {
            return FULL;
        }
        latestListed = lists.leastGreatest(from, l);
        return Integer.bitCount(latestListed);
    }

    public int listed() {
        return latestListed;
    }

    public int count(int what) {
        switch (what) {
            case 0:
                return tape.length;
            case 1:
                return latestCode.size > 0 ? latestCode.size : NONE;
            case 2:
                return latestCode.length;
            case 3:
                return latestCode.line;
            default:
                return NONE;
        }
    }

    // ---- what the calls share

    private Line lineAt(int l) {
        return l < 0 || l >= LINES ? null : lines[l];
    }

    private static boolean isLength(int k) {
        return k >= 1 && k <= LENGTHS;
    }

    private static int quotient(int number, int letters) {
        return letters < 1 ? 0 : number / letters;
    }

    private static int remainder(int number, int letters) {
        return letters < 1 ? 0 : number % letters;
    }

    private static int lowest(long set) {
        return Long.bitCount((set & -set) - 1L);
    }

    /** At most 24 to the 6th, which an int holds. */
    private static int wordsInAll(int letters, int length) {
        int words = 1;
        for (int i = 0; i < length; i++) {
            words *= letters;
        }
        return words;
    }

    private static int pairsNear(Line first, int a, Line second, int b) {
        int pairs = 0;
        for (int c = 0; c < first.letters; c++) {
            if (first.alike(a, c)) {
                pairs |= (second.near[b] | 1 << b) << c * second.letters;
            }
        }
        return pairs;
    }

    private static int aboutLetter(Line line, int what) {
        if (what >= 10 && what < 10 + line.letters) {
            return line.near[what - 10];
        }
        if (line.kind == TOLD && what >= 40 && what < 40 + line.letters) {
            return line.signs[what - 40];
        }
        return NONE;
    }

    private int fewestHeaps(Line line) {
        codes.lay(line, 1);
        int largestCode = codes.findLargest();
        codes.layFar(line);
        return cover.fewest(line, largestCode, codes.findLargest());
    }

    private void findBest(Line line) {
        powers.bestLength = 0;
        for (int k = 1; k <= LENGTHS; k++) {
            boolean wanted = k == 1 || line.letters > 1;
            if (wanted && wordsInAll(line.letters, k) <= WORDS) {
                codes.lay(line, k);
                powers.offer(codes.findLargest(), k);
            }
        }
    }

    /** Whether the signs read last may all have come of this word's letters. */
    private boolean couldMake(Line line, int word) {
        int rest = word;
        for (int i = latestCode.length - 1; i >= 0; i--) {
            int letter = remainder(rest, line.letters);
            if ((line.signs[letter] & text.signs[i]) == 0) {
                return false;
            }
            rest = quotient(rest, line.letters);
        }
        return true;
    }

    /** The bytes that were fed and not yet read. */
    private static final class Tape {
        private static final int ROOM = 600;

        final int[] bytes = new int[ROOM];
        int length = 0;

        /** A call that reads the tape leaves it empty, whatever it answers. */
        void empty() {
            length = 0;
        }

        boolean hasRoomFor(int more) {
            return length + more <= ROOM;
        }

        void push(int four) {
            for (int shift = 24; shift >= 0; shift -= 8) {
                if (length < ROOM) {
                    bytes[length] = four >>> shift & 255;
                    length++;
                }
            }
        }
    }

    /** Reads the tape as a told line's text, or as signs that came. */
    private static final class Text {
        private static final int STRANGE = 1;
        private static final int EMPTY_LETTER = 2;
        private static final int TOO_MANY = 3;
        private static final int TWICE = 4;

        /** Sets of signs: of each letter told, or of each place that came. */
        final int[] signs = new int[LETTERS];
        int letters = 0;
        int fault = 0;
        int place = NONE;

        void read(Tape tape) {
            letters = 0;
            fault = 0;
            place = NONE;
            int open = 0;
            for (int i = 0; i < tape.length && fault == 0; i++) {
                int sign = signAt(tape, i);
                if (sign != 0) {
                    blameIf((open & sign) != 0, TWICE, i);
                    open |= sign;
                } else if (tape.bytes[i] == ';') {
                    blameIf(open == 0, EMPTY_LETTER, i);
                    blameIf(letters + 1 >= LETTERS, TOO_MANY, i);
                    close(open);
                    open = 0;
                } else {
                    blameIf(!isBlank(tape.bytes[i]), STRANGE, i);
                }
            }
            blameIf(open == 0, EMPTY_LETTER, tape.length);
            close(open);
        }

        /** How many signs the tape holds beside its blanks; NONE if too many, or another byte. */
        int readSigns(Tape tape) {
            int read = 0;
            for (int i = 0; i < tape.length; i++) {
                int sign = signAt(tape, i);
                if (sign != 0 && read < LENGTHS) {
                    signs[read] = sign;
                    read++;
                } else if (!isBlank(tape.bytes[i])) {
                    return NONE;
                }
            }
            return read;
        }

        /** The first blame counts: a later one is behind it, or of a higher number at its place. */
        private void blameIf(boolean wrong, int what, int where) {
            if (wrong && fault == 0) {
                fault = what;
                place = where;
            }
        }

        private void close(int open) {
            if (fault == 0 && letters < LETTERS) {
                signs[letters] = open;
                letters++;
            }
        }

        private static int signAt(Tape tape, int i) {
            int number = tape.bytes[i] - 'a';
            return number < 0 || number >= SIGNS ? 0 : 1 << number;
        }

        private static boolean isBlank(int b) {
            return b == 32 || b == 10;
        }
    }

    /** One line: its letters, which are mistaken, its signs if it is told, its rows and handle. */
    private static final class Line {
        int kind = NET;
        int letters = 1;
        /** Grows whenever the line is told anew. */
        int age = 0;
        /** Of each letter those that it is mistaken with, as bits. */
        final int[] near = new int[LETTERS];
        final int[] signs = new int[LETTERS];
        /** The row of each letter, and behind them the handle. */
        final int[][] numbers = new int[LETTERS + 1][PLACES];

        void renew(int newKind, int newLetters) {
            kind = newKind;
            letters = newLetters;
            age++;
            for (int a = 0; a < LETTERS; a++) {
                near[a] = 0;
                signs[a] = 0;
            }
            clearRows();
        }

        void clearRows() {
            for (int a = 0; a <= LETTERS; a++) {
                for (int i = 0; i < PLACES; i++) {
                    numbers[a][i] = 0;
                }
            }
        }

        void takeNear(int[] from) {
            for (int a = 0; a < letters; a++) {
                near[a] = from[a];
            }
        }

        void takeSigns(int[] from) {
            for (int a = 0; a < letters; a++) {
                signs[a] = from[a];
                for (int b = 0; b < a; b++) {
                    if ((signs[a] & signs[b]) != 0) {
                        flip(a, b);
                    }
                }
            }
        }

        boolean has(int a) {
            return a >= 0 && a < letters;
        }

        boolean mistakes(int a, int b) {
            return (near[a] >>> b & 1) != 0;
        }

        boolean alike(int a, int b) {
            return a == b || mistakes(a, b);
        }

        void flip(int a, int b) {
            near[a] ^= 1 << b;
            near[b] ^= 1 << a;
        }

        int pairs() {
            int ends = 0;
            for (int a = 0; a < letters; a++) {
                ends += Integer.bitCount(near[a]);
            }
            return ends / 2;
        }

        int signsInAll() {
            int all = 0;
            for (int a = 0; a < letters; a++) {
                all |= signs[a];
            }
            return Integer.bitCount(all);
        }
    }

    /** The code that the latest most() told. */
    private static final class Code {
        final int[] words = new int[WORDS];
        int size = 0;
        int length = NONE;
        int line = NONE;
        int age = 0;

        void keep(long set, int newLength, int newLine, int newAge) {
            size = 0;
            for (int v = 0; v < WORDS; v++) {
                if ((set >>> v & 1L) != 0L) {
                    words[size] = v;
                    size++;
                }
            }
            length = newLength;
            line = newLine;
            age = newAge;
        }
    }

    /** Exact search among all the words of one line and length, held as bits of a long. */
    private static final class Codes {
        /** Of each word itself and those that it is mistaken with. */
        final long[] near = new long[WORDS];
        int words = 0;
        /** A largest code found so far, how many it has, and how many are enough. */
        long found = 0L;
        int size = 0;
        int enough = 0;

        /** Builds the words' nearness length by length; the caller has seen that there are few enough. */
        void lay(Line line, int length) {
            words = 1;
            near[0] = 1L;
            for (int i = 0; i < length; i++) {
                lengthen(line);
            }
        }

        /** Letters as words, near if they are not mistaken: a code is then a heap. */
        void layFar(Line line) {
            lay(line, 1);
            for (int a = 0; a < words; a++) {
                near[a] = allWords() & ~near[a] | 1L << a;
            }
        }

        /** From the highest letter down, as the words of letter 0 stand where the shorter ones do. */
        private void lengthen(Line line) {
            int shorter = words;
            for (int a = line.letters - 1; a >= 0; a--) {
                for (int v = 0; v < shorter && a * shorter + v < WORDS; v++) {
                    long set = 0L;
                    for (int b = 0; b < line.letters; b++) {
                        if (line.alike(a, b)) {
                            set |= near[v] << b * shorter;
                        }
                    }
                    near[a * shorter + v] = set;
                }
            }
            words = Math.min(WORDS, shorter * line.letters);
        }

        private long allWords() {
            return words >= WORDS ? -1L : (1L << words) - 1L;
        }

        int findLargest() {
            found = 0L;
            size = 0;
            enough = words;
            explore(allWords(), 0L, 0);
            return size;
        }

        /** Of the largest codes that with the least row, once findLargest() has found one. */
        long leastLargest() {
            long least = 0L;
            long open = allWords();
            for (int v = 0; v < words; v++) {
                long word = 1L << v;
                if ((open & word) != 0L) {
                    long rest = open & ~near[v];
                    if ((found & word) != 0L || reaches(rest, least | word)) {
                        least |= word;
                        open = rest;
                    } else {
                        open &= ~word;
                    }
                }
            }
            return least;
        }

        /** Whether a code as large as the largest has these words, and for the rest open ones. */
        private boolean reaches(long open, long chosen) {
            enough = size;
            size--;
            explore(open, chosen, 0);
            boolean reached = size == enough;
            size = enough;
            return reached;
        }

        /** Each level takes a word with three or more others near it, so there are few levels. */
        private void explore(long open, long chosen, int depth) {
            if (depth > WORDS) {
                return;
            }
            long free = open;
            long code = chosen;
            for (int turn = 0; turn <= WORDS && size < enough; turn++) {
                free = needed(free);
                long lone = loneWords(free);
                code |= lone;
                free &= ~lone;
                if (Long.bitCount(code) + groups(free) <= size) {
                    return;
                }
                if (free == 0L) {
                    found = code;
                    size = Long.bitCount(code);
                    return;
                }
                int v = busiest(free);
                long word = 1L << v;
                if (Long.bitCount(free & near[v]) > 3) {
                    explore(free & ~near[v], code | word, depth + 1);
                    free &= ~word;
                } else {
                    // Rings alone are left, and any word of a ring is in a largest code of it.
                    code |= word;
                    free &= ~near[v];
                }
            }
        }

        /** What is left of these when words that another can stand for are gone, one after another. */
        private long needed(long free) {
            long rest = free;
            boolean more = true;
            for (int sweep = 0; sweep < WORDS && more; sweep++) {
                long before = rest;
                long left = rest;
                int n = Long.bitCount(left);
                for (int i = 0; i < n; i++) {
                    int v = lowest(left);
                    left &= left - 1L;
                    if (canBeSpared(v, rest)) {
                        rest &= ~(1L << v);
                    }
                }
                more = rest != before;
            }
            return rest;
        }

        /** A word is spared if one near it has nothing near that this one has not: any code may swap them. */
        private boolean canBeSpared(int v, long rest) {
            long far = rest & ~near[v];
            long left = rest & near[v] & ~(1L << v);
            int n = Long.bitCount(left);
            for (int i = 0; i < n; i++) {
                if ((near[lowest(left)] & far) == 0L) {
                    return true;
                }
                left &= left - 1L;
            }
            return false;
        }

        private long loneWords(long free) {
            long lone = 0L;
            long left = free;
            int n = Long.bitCount(left);
            for (int i = 0; i < n; i++) {
                int v = lowest(left);
                left &= left - 1L;
                if ((free & near[v]) == 1L << v) {
                    lone |= 1L << v;
                }
            }
            return lone;
        }

        /** In how many groups of words mistaken for one another a plain try puts these. */
        private int groups(long free) {
            int groups = 0;
            long rest = free;
            long group = 0L;
            int n = Long.bitCount(free);
            for (int i = 0; i < n; i++) {
                if (group == 0L) {
                    groups++;
                    group = rest;
                }
                int v = lowest(group);
                rest &= ~(1L << v);
                group &= near[v] & rest;
            }
            return groups;
        }

        private int busiest(long free) {
            int busiest = 0;
            int highest = -1;
            long left = free;
            int n = Long.bitCount(free);
            for (int i = 0; i < n; i++) {
                int v = lowest(left);
                left &= left - 1L;
                int degree = Long.bitCount(free & near[v]);
                if (degree > highest) {
                    highest = degree;
                    busiest = v;
                }
            }
            return busiest;
        }

        /** How many codes are largest; with 24 words at most 6561. */
        int countLargest() {
            return (int) tally(allWords(), 0);
        }

        /** The size of the largest codes among free words, above 32 bits that tell how many there are. */
        private long tally(long free, int depth) {
            if (depth > WORDS) {
                return 0L;
            }
            long largest = 0L;
            long times = 1L;
            long rest = free;
            int busiest = -1;
            int highest = 0;
            for (int v = 0; v < words; v++) {
                long group = near[v] & rest;
                int members = Long.bitCount(group);
                if ((rest >>> v & 1L) == 0L) {
                    continue;
                }
                if (standsApart(group, rest)) {
                    largest++;
                    times *= members;
                    rest &= ~group;
                } else if (members > highest) {
                    highest = members;
                    busiest = v;
                }
            }
            if (busiest < 0) {
                return largest << 32 | times;
            }
            long with = tally(rest & ~near[busiest], depth + 1) + (1L << 32);
            long without = tally(rest & ~(1L << busiest), depth + 1);
            long joint = joinTallies(with, without);
            return (largest << 32) + (joint >>> 32 << 32) + (joint & 0xFFFFFFFFL) * times;
        }

        /** Whether all of the group are mistaken for one another and for no other of the rest. */
        private boolean standsApart(long group, long rest) {
            long left = group;
            int n = Long.bitCount(group);
            for (int i = 0; i < n; i++) {
                if ((near[lowest(left)] & rest) != group) {
                    return false;
                }
                left &= left - 1L;
            }
            return true;
        }

        private static long joinTallies(long a, long b) {
            if (a >>> 32 == b >>> 32) {
                return a + (b & 0xFFFFFFFFL);
            }
            return Math.max(a, b);
        }
    }

    /** Puts the letters of a line in the fewest heaps, by exact search. */
    private static final class Cover {
        private static final int SLOTS = 512;
        private static final int SPREAD = -1640531535;
        private static final int LETTER_BITS = 0xFFFFFF;

        final int[] near = new int[LETTERS];
        /** As near, but the letters of a heap begun are as one: its first. */
        final int[] joined = new int[LETTERS];
        /** Of each heap begun its first letter, and the letters that are mistaken with all in it. */
        final int[] first = new int[LETTERS];
        final int[] fits = new int[LETTERS];
        /** Sets that would not go in so many heaps: which try it was, how many heaps, the letters. */
        final long[] failed = new long[SLOTS];
        long tries = 0L;
        int letters = 0;
        /** How many heaps there may be, and how many letters one of them can hold. */
        int limit = 0;
        int widest = 0;

        /** No fewer heaps will do than a code of length 1 has words. */
        int fewest(Line line, int largestCode, int widestHeap) {
            letters = line.letters;
            widest = widestHeap;
            for (int a = 0; a < letters; a++) {
                near[a] = line.near[a];
            }
            limit = Math.max(1, largestCode);
            while (limit < letters && !canEnd((1 << letters) - 1, 0)) {
                limit++;
            }
            return limit;
        }

        /** The least row with as many heaps as fewest() found. */
        void leastRow(int[] row) {
            int left = (1 << letters) - 1;
            int begun = 0;
            for (int a = 0; a < letters; a++) {
                left &= ~(1 << a);
                int h = leastHeap(a, left, begun);
                if (h == begun) {
                    first[h] = a;
                    fits[h] = near[a];
                    begun++;
                }
                row[a] = h;
            }
        }

        /** Puts a letter in the first heap begun that leaves a way to end; answers begun if there is none. */
        private int leastHeap(int a, int left, int begun) {
            for (int h = 0; h < begun; h++) {
                int before = fits[h];
                if ((before >>> a & 1) != 0) {
                    fits[h] = before & near[a];
                    if (canEnd(left, begun)) {
                        return h;
                    }
                    fits[h] = before;
                }
            }
            return begun;
        }

        /** Whether the letters left can go in the heaps begun and new ones within the limit. */
        private boolean canEnd(int left, int begun) {
            int all = left;
            for (int b = 0; b < letters; b++) {
                joined[b] = near[b] & left;
            }
            for (int h = 0; h < begun; h++) {
                int a = first[h];
                int others = fits[h] & left;
                all |= 1 << a;
                joined[a] = others;
                for (int b = 0; b < letters; b++) {
                    joined[b] |= (others >>> b & 1) << a;
                }
            }
            tries++;
            return covers(all, limit, 0);
        }

        /** Whether these can go in so many heaps. */
        private boolean covers(int these, int heaps, int depth) {
            int left = withoutEasy(these, heaps);
            if (left == 0) {
                return true;
            }
            if (Integer.bitCount(left) > heaps * widest || hasFailed(left, heaps) || apart(left) > heaps) {
                return false;
            }
            int a = loneliest(left);
            if (grow(left, joined[a] & left, 0, 1 << a, heaps, depth + 1)) {
                return true;
            }
            failed[slot(left)] = tries << 32 | (long) heaps << 24 | left;
            return false;
        }

        /**
         * Tries each heap that has these letters and others of the open ones, and to which none can be
         * added: a lesser heap is never needed. Past are the letters whose heaps have all been tried.
         */
        private boolean grow(int left, int open, int past, int heap, int heaps, int depth) {
            if (open == 0) {
                return past == 0 && covers(left & ~heap, heaps - 1, depth);
            }
            if (depth > LETTERS) {
                return false;
            }
            int stillOpen = open;
            int nowPast = past;
            int turns = open & ~joined[mostOpen(open | past, open)];
            for (int a = 0; a < letters; a++) {
                if ((turns >>> a & 1) != 0) {
                    int more = joined[a];
                    if (grow(left, stillOpen & more, nowPast & more, heap | 1 << a, heaps, depth + 1)) {
                        return true;
                    }
                    stillOpen &= ~(1 << a);
                    nowPast |= 1 << a;
                }
            }
            return false;
        }

        /** Drops letters that fewer others can't be with than there are heaps: one stays open for them. */
        private int withoutEasy(int these, int heaps) {
            int left = these;
            boolean more = true;
            for (int sweep = 0; sweep < LETTERS && more; sweep++) {
                int before = left;
                for (int a = 0; a < letters; a++) {
                    if ((left >>> a & 1) != 0 && Integer.bitCount(left & ~joined[a]) <= heaps) {
                        left &= ~(1 << a);
                    }
                }
                more = left != before;
            }
            return left;
        }

        /** Sets that follow one another are much alike, so their bits are spread. */
        private static int slot(int left) {
            return left * SPREAD >>> 23 & SLOTS - 1;
        }

        private boolean hasFailed(int left, int heaps) {
            long kept = failed[slot(left)];
            return kept >>> 32 == tries && (kept & LETTER_BITS) == left && (kept >>> 24 & 255L) >= heaps;
        }

        /** How many that all need a heap of their own a plain try finds. */
        private int apart(int these) {
            int left = these;
            int apart = 0;
            for (int turn = 0; turn < LETTERS && left != 0; turn++) {
                int a = loneliest(left);
                left &= ~(joined[a] | 1 << a);
                apart++;
            }
            return apart;
        }

        /** Of these the letter with the fewest that it could share a heap with. */
        private int loneliest(int these) {
            int loneliest = 0;
            int fewest = LETTERS + 1;
            for (int a = 0; a < letters; a++) {
                if ((these >>> a & 1) != 0) {
                    int shared = Integer.bitCount(joined[a] & these);
                    if (shared < fewest) {
                        fewest = shared;
                        loneliest = a;
                    }
                }
            }
            return loneliest;
        }

        /** Of these the letter with the most open ones that it could share a heap with. */
        private int mostOpen(int these, int open) {
            int mostOpen = 0;
            int most = -1;
            for (int a = 0; a < letters; a++) {
                if ((these >>> a & 1) != 0) {
                    int shared = Integer.bitCount(joined[a] & open);
                    if (shared > most) {
                        most = shared;
                        mostOpen = a;
                    }
                }
            }
            return mostOpen;
        }
    }

    /** Whether the rows of a line stand, and the bound by them. */
    private static final class Rows {
        int above = 0;
        int below = 1;
        int letter = 0;

        int firstFlaw(Line line) {
            for (int a = 0; a < line.letters; a++) {
                for (int b = a + 1; b < line.letters; b++) {
                    if (!line.mistakes(a, b) && product(line.numbers[a], line.numbers[b]) != 0) {
                        return 100 * a + b;
                    }
                }
            }
            for (int a = 0; a < line.letters; a++) {
                if (product(line.numbers[a], line.numbers[LETTERS]) == 0) {
                    return NO_HANDLE_PRODUCT + a;
                }
            }
            return NONE;
        }

        /** Finds the bound by rows; false if they don't stand. */
        boolean measure(Line line) {
            if (firstFlaw(line) != NONE) {
                return false;
            }
            above = 0;
            below = 1;
            int[] handle = line.numbers[LETTERS];
            for (int a = 0; a < line.letters; a++) {
                int[] own = line.numbers[a];
                int joint = product(own, handle);
                offer(product(own, own) * product(handle, handle), joint * joint, a);
            }
            cut();
            return true;
        }

        private void offer(int over, int under, int a) {
            if ((long) over * below > (long) above * under) {
                above = over;
                below = under;
                letter = a;
            }
        }

        /** Euclid's way; numbers below 2 to the 25th need fewer than 40 steps. */
        private void cut() {
            int greater = above;
            int lesser = below;
            for (int step = 0; step < 64 && lesser != 0; step++) {
                int rest = greater % lesser;
                greater = lesser;
                lesser = rest;
            }
            if (greater > 0) {
                above /= greater;
                below /= greater;
            }
        }

        private static int product(int[] a, int[] b) {
            int sum = 0;
            for (int i = 0; i < PLACES; i++) {
                sum += a[i] * b[i];
            }
            return sum;
        }
    }

    /** Holds powers against one another exactly, and keeps the best rate offered. */
    private static final class Powers {
        /** 1000 to the 12th has 37 digits, so four parts of twelve digits hold it. */
        private static final int PARTS = 4;
        private static final long PART = 1000000000000L;

        final long[] left = new long[PARTS];
        final long[] right = new long[PARTS];
        int bestLength = 0;
        int bestSize = 0;

        /** A longer length is taken only if it has a greater rate, so the first of the best stays. */
        void offer(int size, int length) {
            if (bestLength == 0 || hold(size, length, bestSize, bestLength) > 0) {
                bestSize = size;
                bestLength = length;
            }
        }

        int hold(int s, int k, int t, int j) {
            raise(left, s, j);
            raise(right, t, k);
            for (int i = PARTS - 1; i >= 0; i--) {
                if (left[i] != right[i]) {
                    return left[i] < right[i] ? -1 : 1;
                }
            }
            return 0;
        }

        private static void raise(long[] number, int base, int times) {
            for (int i = 0; i < PARTS; i++) {
                number[i] = i == 0 ? 1L : 0L;
            }
            for (int step = 0; step < times; step++) {
                long carry = 0L;
                for (int i = 0; i < PARTS; i++) {
                    long part = number[i] * base + carry;
                    number[i] = part % PART;
                    carry = part / PART;
                }
            }
        }

        boolean isPower(int number, int base, int times) {
            long power = 1L;
            for (int i = 0; i < times && power <= number; i++) {
                power *= base;
            }
            return power == number;
        }
    }

    /** The greatest heaps for lists, by exact search. */
    private static final class Lists {
        /** Half of the signs are counted in one long: 12 counters of five bits. */
        private static final int HALF = 12;
        private static final int BITS = 5;
        private static final int FULL_COUNT = 15;
        private static final long ONES = 0x0084210842108421L;
        private static final long OVER = ONES << 4;

        final long[] low = new long[LETTERS_TO_LIST];
        final long[] high = new long[LETTERS_TO_LIST];
        /** Of the first 0, 1, 2, .. letters alone: how many the greatest heap has. */
        final int[] reach = new int[LETTERS_TO_LIST + 1];

        /** The least set of letters of those as large as can be. */
        int leastGreatest(Line line, int l) {
            int letters = Math.min(line.letters, LETTERS_TO_LIST);
            if (l >= letters) {
                return (1 << letters) - 1;
            }
            // Counters start so that the one too many sets their highest bit.
            long start = ONES * (FULL_COUNT - l);
            reach[0] = 0;
            for (int a = 0; a < letters; a++) {
                low[a] = spread(line.signs[a]);
                high[a] = spread(line.signs[a] >>> HALF);
                boolean more = search(a, start + low[a], start + high[a], reach[a]) >= 0;
                reach[a + 1] = more ? reach[a] + 1 : reach[a];
            }
            return search(letters, start, start, reach[letters]);
        }

        private static long spread(int signs) {
            long counters = 0L;
            for (int i = 0; i < HALF; i++) {
                counters |= (long) (signs >>> i & 1) << i * BITS;
            }
            return counters;
        }

        /** The least set of so many of the first letters that fits the counters; NONE if there is none. */
        private int search(int first, long lowCount, long highCount, int wanted) {
            if (wanted <= 0) {
                return 0;
            }
            if (first <= 0 || first > LETTERS_TO_LIST || reach[first] < wanted) {
                return NONE;
            }
            int a = first - 1;
            int without = search(a, lowCount, highCount, wanted);
            if (without != NONE) {
                return without;
            }
            long lowMore = lowCount + low[a];
            long highMore = highCount + high[a];
            if (((lowMore | highMore) & OVER) != 0L) {
                return NONE;
            }
            int with = search(a, lowMore, highMore, wanted - 1);
            return with == NONE ? NONE : with | 1 << a;
        }
    }
}
