import java.util.Random;

/** Random runs of calls, each answer held against the plain model's. */
public final class RandomRuns {
    private static final int RUNS = 400;
    private static final int CALLS = 512;

    private final Check check;
    private final Random random;
    private final NeverMistaken x = new NeverMistaken();
    private final Model m = new Model();
    private final int run;
    /** Some runs keep to short lines, so that long words are looked at too. */
    private final int longest;
    private int calls = 0;

    private RandomRuns(Check check, int run) {
        this.check = check;
        this.run = run;
        this.random = new Random(1000003L * run + 17);
        this.longest = new int[] {3, 5, 7, 10, 24}[run % 5];
    }

    public static void main(String[] args) {
        Check check = new Check("RandomRuns");
        for (int run = 0; run < RUNS && check.isClean(); run++) {
            RandomRuns one = new RandomRuns(check, run);
            while (one.calls < CALLS) {
                one.step();
            }
        }
        check.close();
    }

    /** A step may go past the last call that is promised; what it answers there is free. */
    private void due(String call, int got, int want) {
        calls++;
        if (calls <= CALLS) {
            check.due("run " + run + ", call " + calls + ", " + call, got, want);
        }
    }

    /** Mostly within 0 .. below - 1, at times just or far outside. */
    private int near(int below) {
        int kind = random.nextInt(24);
        if (kind == 0) {
            return -1;
        }
        if (kind == 1) {
            return below;
        }
        if (kind == 2 && random.nextInt(4) == 0) {
            return random.nextBoolean() ? random.nextInt() : random.nextBoolean() ? Integer.MIN_VALUE : Integer.MAX_VALUE;
        }
        return random.nextInt(Math.max(1, below));
    }

    private int line() {
        int kind = random.nextInt(40);
        if (kind == 0) {
            return random.nextBoolean() ? -1 : 8;
        }
        return kind == 1 ? near(8) : random.nextInt(3);
    }

    private int lettersOf(int l) {
        return m.isLine(l) ? m.lines[l].n : 3;
    }

    private void step() {
        switch (random.nextInt(20)) {
            case 0, 1 -> newLine();
            case 2, 3, 4 -> pair();
            case 5 -> tell();
            case 6 -> join();
            case 7 -> look();
            case 8 -> takenWords();
            case 9, 10 -> code();
            case 11 -> waysAndHeaps();
            case 12, 13 -> rows();
            case 14 -> rates();
            case 15, 16 -> cameBack();
            case 17 -> lists();
            case 18 -> tapeAlone();
            default -> small();
        }
    }

    private void newLine() {
        int l = line();
        int n = near(longest + 1);
        if (random.nextInt(3) == 0) {
            due("ring(" + l + ", " + n + ")", x.ring(l, n), m.ring(l, n));
        } else {
            due("net(" + l + ", " + n + ")", x.net(l, n), m.net(l, n));
        }
    }

    private void pair() {
        int l = line();
        for (int i = 0; i < 4; i++) {
            int a = near(lettersOf(l));
            int b = near(lettersOf(l));
            boolean on = random.nextInt(4) != 0;
            due("mistake(" + l + ", " + a + ", " + b + ", " + on + ")", x.mistake(l, a, b, on), m.mistake(l, a, b, on));
        }
    }

    private void feed(String text) {
        for (int from = 0; from < text.length(); from += 20) {
            int[] i = Check.ints(text, from);
            due("feed", x.feed(i[0], i[1], i[2], i[3], i[4]), m.feed(i[0], i[1], i[2], i[3], i[4]));
        }
    }

    private void tape(String text) {
        if (random.nextInt(8) != 0) {
            due("end(0)", x.end(0), m.end(0));
        }
        int before = m.tape.size();
        feed(text);
        int n = random.nextInt(30) == 0 ? near(640) : before + text.length();
        due("end(" + n + ")", x.end(n), m.end(n));
    }

    private String sign(int signs) {
        return random.nextInt(60) == 0 ? String.valueOf((char) random.nextInt(256))
                : random.nextInt(12) == 0 ? (random.nextBoolean() ? " " : "\n")
                : String.valueOf((char) (97 + random.nextInt(signs)));
    }

    private void tell() {
        StringBuilder text = new StringBuilder();
        int letters = random.nextInt(12) == 0 ? 22 + random.nextInt(5) : 1 + random.nextInt(longest);
        int signs = 1 + random.nextInt(24);
        for (int a = 0; a < letters; a++) {
            text.append(a > 0 ? ";" : "");
            int many = random.nextInt(60) == 0 ? 0 : 1 + random.nextInt(Math.min(3, signs));
            for (int i = 0; i < many; i++) {
                String sign = sign(signs);
                if (random.nextInt(40) == 0 || text.substring(text.lastIndexOf(";") + 1).indexOf(sign) < 0) {
                    text.append(sign);
                }
            }
        }
        tape(text.toString());
        int l = line();
        due("told(" + l + ")", x.told(l), m.told(l));
        due("count(0)", x.count(0), m.count(0));
        for (int what = -1; what <= 2; what++) {
            due("fault(" + what + ")", x.fault(what), m.fault(what));
        }
    }

    private void join() {
        int l = line();
        int k = line();
        int to = line();
        if (random.nextBoolean()) {
            due("both(" + l + ", " + k + ", " + to + ")", x.both(l, k, to), m.both(l, k, to));
        } else {
            due("either(" + l + ", " + k + ", " + to + ")", x.either(l, k, to), m.either(l, k, to));
        }
    }

    private void look() {
        int l = line();
        for (int what = -1; what <= 5; what++) {
            due("about(" + l + ", " + what + ")", x.about(l, what), m.about(l, what));
        }
        for (int i = 0; i < 6; i++) {
            int what = (random.nextBoolean() ? 10 : 40) + near(lettersOf(l));
            due("about(" + l + ", " + what + ")", x.about(l, what), m.about(l, what));
        }
    }

    private void takenWords() {
        int l = line();
        int k = 1 + near(6);
        int words = (int) Math.min(1000000000, Math.pow(lettersOf(l), Math.max(0, Math.min(6, k))));
        for (int i = 0; i < 4; i++) {
            int v = near(words);
            int w = near(words);
            due("taken(" + l + ", " + k + ", " + v + ", " + w + ")", x.taken(l, k, v, w), m.taken(l, k, v, w));
        }
    }

    /** Whether the model can tell it in a moment. */
    private boolean isQuick(int l, int k, int most) {
        return k < 1 || k > 6 || Math.pow(lettersOf(l), k) <= most || Math.pow(lettersOf(l), k) > 64;
    }

    private void code() {
        int l = line();
        int k = random.nextBoolean() ? 1 : 1 + near(6);
        if (isQuick(l, k, 36)) {
            due("most(" + l + ", " + k + ")", x.most(l, k), m.most(l, k));
            for (int i = -1; i <= (m.code == null ? 0 : m.code.size()); i++) {
                due("word(" + i + ")", x.word(i), m.word(i));
            }
        }
    }

    private void waysAndHeaps() {
        int l = line();
        int k = 1 + near(random.nextBoolean() ? 1 : 6);
        if (isQuick(l, k, 16)) {
            due("ways(" + l + ", " + k + ")", x.ways(l, k), m.ways(l, k));
        }
        if (lettersOf(l) <= 10) {
            due("heaps(" + l + ")", x.heaps(l), m.heaps(l));
            for (int a = -1; a <= (m.heapRow == null ? 0 : m.heapRow.length); a++) {
                due("heap(" + a + ")", x.heap(a), m.heap(a));
            }
        }
    }

    private void rows() {
        int l = line();
        int n = lettersOf(l);
        boolean tame = random.nextInt(3) != 0;
        for (int a = -1; a < n; a++) {
            for (int i = 0; i < (tame ? 2 : 6); i++) {
                int v = tame ? random.nextInt(3) - 1 : random.nextInt(70) == 0 ? near(100) : random.nextInt(61) - 30;
                if (random.nextInt(3) != 0) {
                    int letter = random.nextInt(60) == 0 ? near(24) : a;
                    int at = random.nextInt(60) == 0 ? near(6) : i;
                    due("row(" + l + ", " + letter + ", " + at + ", " + v + ")", x.row(l, letter, at, v), m.row(l, letter, at, v));
                }
            }
        }
        if (m.isLine(l) && random.nextBoolean()) {
            squareUp(l);
        }
        due("stands(" + l + ")", x.stands(l), m.stands(l));
        for (int what = -1; what <= 3; what++) {
            due("bound(" + l + ", " + what + ")", x.bound(l, what), m.bound(l, what));
        }
        if (n <= 7) {
            due("met(" + l + ")", x.met(l), m.met(l));
        }
    }

    /** Puts each letter on the axis of its heap, and the handle across all of them. */
    private void squareUp(int l) {
        int[] heap = Model.leastHeaps(m.lines[l].n <= 10 ? m.lines[l] : new Model.Line());
        for (int a = 0; a < heap.length; a++) {
            for (int i = 0; i < 6; i++) {
                int v = heap[a] == i ? 1 + random.nextInt(30) : 0;
                due("row", x.row(l, a, i, v), m.row(l, a, i, v));
            }
        }
        int all = 1 + random.nextInt(30);
        for (int i = 0; i < 6; i++) {
            int v = random.nextInt(3) == 0 ? 1 + random.nextInt(30) : all;
            due("row", x.row(l, -1, i, v), m.row(l, -1, i, v));
        }
    }

    private void rates() {
        int most = random.nextBoolean() ? 20 : 1001;
        int s = near(most);
        int t = random.nextInt(3) == 0 ? s : near(most);
        int k = 1 + near(12);
        int j = random.nextInt(3) == 0 ? k : 1 + near(12);
        due("compare(" + s + ", " + k + ", " + t + ", " + j + ")", x.compare(s, k, t, j), m.compare(s, k, t, j));
        int l = line();
        if (lettersOf(l) <= 6 || lettersOf(l) > 8) {
            due("best(" + l + ")", x.best(l), m.best(l));
        }
    }

    private void cameBack() {
        int l = m.code != null && random.nextInt(4) != 0 ? m.codeAt : line();
        if (random.nextBoolean() && isQuick(l, 2, 36)) {
            int k = random.nextInt(3) == 0 ? 2 : 1;
            due("most(" + l + ", " + k + ")", x.most(l, k), m.most(l, k));
        }
        for (int times = 0; times < 3; times++) {
            StringBuilder text = new StringBuilder();
            int many = random.nextInt(6) == 0 ? random.nextInt(8) : m.code == null ? 1 : m.codeLength;
            for (int i = 0; i < many; i++) {
                text.append(sign(random.nextBoolean() ? 6 : 24)).append(random.nextInt(6) == 0 ? " " : "");
            }
            tape(text.toString());
            int at = random.nextInt(12) == 0 ? line() : l;
            due("came(" + at + ")", x.came(at), m.came(at));
            due("count(0)", x.count(0), m.count(0));
            due("sent()", x.sent(), m.sent());
        }
    }

    private void lists() {
        int at = line();
        int l = 1 + near(random.nextBoolean() ? 3 : 24);
        if (lettersOf(at) <= 12 || lettersOf(at) > 16 || random.nextInt(4) == 0) {
            due("list(" + at + ", " + l + ")", x.list(at, l), m.list(at, l));
            due("listed()", x.listed(), m.listed());
        }
    }

    private void tapeAlone() {
        int many = random.nextInt(4) == 0 ? 35 : 3;
        for (int i = 0; i < many; i++) {
            feed("ab;c x\n" + random.nextInt());
        }
        int n = near(620);
        due("end(" + n + ")", x.end(n), m.end(n));
    }

    private void small() {
        for (int what = -1; what <= 4; what++) {
            due("count(" + what + ")", x.count(what), m.count(what));
        }
        due("sent()", x.sent(), m.sent());
        due("listed()", x.listed(), m.listed());
    }
}
