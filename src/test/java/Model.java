import java.math.BigInteger;
import java.util.ArrayList;
import java.util.Arrays;
import java.util.HashMap;
import java.util.List;
import java.util.Map;
import java.util.TreeSet;

/** The document once more, in the plainest and slowest form, to be held against the class. */
final class Model {
    static final int NONE = -1;
    static final int RANGE = -2;
    static final int FULL = -3;
    static final int STATE = -4;

    static final class Line {
        int n = 1;
        int kind = 0;
        boolean[][] pairs = new boolean[1][1];
        List<TreeSet<Integer>> signs = new ArrayList<>();
        int[][] rows = new int[1][6];
        int[] handle = new int[6];
    }

    final Line[] lines = new Line[8];
    final List<Integer> tape = new ArrayList<>();
    int fault = 0;
    int place = NONE;
    List<Integer> code = null;
    int codeLength;
    int codeAt;
    Line codeLine;
    int[] heapRow = null;
    int sentWord = NONE;
    int listedSet = NONE;

    Model() {
        for (int l = 0; l < 8; l++) {
            lines[l] = new Line();
        }
    }

    boolean isLine(int l) {
        return l >= 0 && l < 8;
    }

    int feed(int a, int b, int c, int d, int e) {
        if (tape.size() + 20 > 600) {
            return FULL;
        }
        for (int four : new int[] {a, b, c, d, e}) {
            for (int i = 3; i >= 0; i--) {
                tape.add(four >> 8 * i & 255);
            }
        }
        return tape.size();
    }

    int end(int n) {
        if (n < 0 || n > tape.size()) {
            return NONE;
        }
        while (tape.size() > n) {
            tape.remove(tape.size() - 1);
        }
        return n;
    }

    /** A line told anew is a new object, so that came() can see it. */
    Line anew(int l, int n, int kind) {
        Line line = new Line();
        line.n = n;
        line.kind = kind;
        line.pairs = new boolean[n][n];
        line.rows = new int[n][6];
        lines[l] = line;
        return line;
    }

    int net(int l, int n) {
        if (!isLine(l) || n < 1 || n > 24) {
            return RANGE;
        }
        anew(l, n, 0);
        return n;
    }

    int mistake(int l, int a, int b, boolean on) {
        if (!isLine(l)) {
            return RANGE;
        }
        Line line = lines[l];
        if (a < 0 || b < 0 || a >= line.n || b >= line.n || a == b) {
            return RANGE;
        }
        if (line.kind != 0) {
            return STATE;
        }
        if (line.pairs[a][b] == on) {
            return 0;
        }
        line.pairs[a][b] = on;
        line.pairs[b][a] = on;
        line.rows = new int[line.n][6];
        line.handle = new int[6];
        return 1;
    }

    int ring(int l, int n) {
        if (!isLine(l) || n < 3 || n > 24) {
            return RANGE;
        }
        Line line = anew(l, n, 2);
        for (int a = 0; a < n; a++) {
            line.pairs[a][(a + 1) % n] = true;
            line.pairs[a][(a + n - 1) % n] = true;
        }
        return n;
    }

    int told(int l) {
        List<Integer> text = new ArrayList<>(tape);
        tape.clear();
        if (!isLine(l)) {
            return RANGE;
        }
        fault = 0;
        place = NONE;
        List<TreeSet<Integer>> signs = new ArrayList<>();
        signs.add(new TreeSet<>());
        for (int i = 0; i < text.size(); i++) {
            int b = text.get(i);
            TreeSet<Integer> last = signs.get(signs.size() - 1);
            if (b == 32 || b == 10) {
                continue;
            }
            if (b == 59) {
                if (last.isEmpty()) {
                    return blame(2, i);
                }
                if (signs.size() == 24) {
                    return blame(3, i);
                }
                signs.add(new TreeSet<>());
            } else if (b < 97 || b > 120) {
                return blame(1, i);
            } else if (!last.add(b - 97)) {
                return blame(4, i);
            }
        }
        if (signs.get(signs.size() - 1).isEmpty()) {
            return blame(2, text.size());
        }
        Line line = anew(l, signs.size(), 1);
        line.signs = signs;
        for (int a = 0; a < line.n; a++) {
            for (int b = 0; b < line.n; b++) {
                TreeSet<Integer> shared = new TreeSet<>(signs.get(a));
                shared.retainAll(signs.get(b));
                line.pairs[a][b] = a != b && !shared.isEmpty();
            }
        }
        return line.n;
    }

    int blame(int what, int where) {
        fault = what;
        place = where;
        return NONE;
    }

    int fault(int what) {
        return what == 0 ? fault : what == 1 ? place : NONE;
    }

    int both(int l, int m, int to) {
        if (!isLine(l) || !isLine(m) || !isLine(to)) {
            return RANGE;
        }
        Line p = lines[l];
        Line q = lines[m];
        if (p.n * q.n > 24) {
            return FULL;
        }
        Line line = anew(to, p.n * q.n, 0);
        for (int v = 0; v < line.n; v++) {
            for (int w = 0; w < line.n; w++) {
                line.pairs[v][w] = v != w && near(p, v / q.n, w / q.n) && near(q, v % q.n, w % q.n);
            }
        }
        return line.n;
    }

    int either(int l, int m, int to) {
        if (!isLine(l) || !isLine(m) || !isLine(to)) {
            return RANGE;
        }
        Line p = lines[l];
        Line q = lines[m];
        if (p.n + q.n > 24) {
            return FULL;
        }
        Line line = anew(to, p.n + q.n, 0);
        for (int v = 0; v < line.n; v++) {
            for (int w = 0; w < line.n; w++) {
                if (v < p.n && w < p.n) {
                    line.pairs[v][w] = p.pairs[v][w];
                } else if (v >= p.n && w >= p.n) {
                    line.pairs[v][w] = q.pairs[v - p.n][w - p.n];
                }
            }
        }
        return line.n;
    }

    static boolean near(Line line, int a, int b) {
        return a == b || line.pairs[a][b];
    }

    int about(int l, int what) {
        if (!isLine(l)) {
            return NONE;
        }
        Line line = lines[l];
        if (what == 0) {
            return line.n;
        }
        if (what == 1) {
            return line.kind;
        }
        if (what == 3) {
            int pairs = 0;
            for (int a = 0; a < line.n; a++) {
                for (int b = 0; b < a; b++) {
                    pairs += line.pairs[a][b] ? 1 : 0;
                }
            }
            return pairs;
        }
        if (what == 4) {
            TreeSet<Integer> all = new TreeSet<>();
            line.signs.forEach(all::addAll);
            return all.size();
        }
        int bits = 0;
        if (what >= 10 && what < 10 + line.n) {
            for (int b = 0; b < line.n; b++) {
                bits += line.pairs[what - 10][b] ? 1 << b : 0;
            }
            return bits;
        }
        if (line.kind == 1 && what >= 40 && what < 40 + line.n) {
            for (int sign : line.signs.get(what - 40)) {
                bits += 1 << sign;
            }
            return bits;
        }
        return NONE;
    }

    static int words(Line line, int k) {
        return (int) Math.round(Math.pow(line.n, k));
    }

    static int[] letters(Line line, int k, int word) {
        int[] letters = new int[k];
        for (int i = k - 1, rest = word; i >= 0; i--, rest /= line.n) {
            letters[i] = rest % line.n;
        }
        return letters;
    }

    static boolean nearWords(Line line, int k, int v, int w) {
        int[] p = letters(line, k, v);
        int[] q = letters(line, k, w);
        for (int i = 0; i < k; i++) {
            if (!near(line, p[i], q[i])) {
                return false;
            }
        }
        return true;
    }

    int taken(int l, int k, int v, int w) {
        if (!isLine(l) || k < 1 || k > 6 || v == w || v < 0 || w < 0) {
            return RANGE;
        }
        if (v >= words(lines[l], k) || w >= words(lines[l], k)) {
            return RANGE;
        }
        return nearWords(lines[l], k, v, w) ? 1 : 0;
    }

    /** All words that are not near a word, itself among those that are. */
    static long[] apart(Line line, int k) {
        int words = words(line, k);
        long[] apart = new long[words];
        for (int v = 0; v < words; v++) {
            for (int w = 0; w < words; w++) {
                if (!nearWords(line, k, v, w)) {
                    apart[v] |= 1L << w;
                }
            }
        }
        return apart;
    }

    static int largest(long[] apart, long free, Map<Long, Integer> known) {
        if (free == 0) {
            return 0;
        }
        Integer before = known.get(free);
        if (before != null) {
            return before;
        }
        int v = Long.numberOfTrailingZeros(free);
        int most = 1 + largest(apart, free & apart[v], known);
        long without = free & ~(1L << v);
        if ((free & ~apart[v]) != 1L << v) {
            most = Math.max(most, largest(apart, without, known));
        }
        known.put(free, most);
        return most;
    }

    static long all(int words) {
        return words == 64 ? -1L : (1L << words) - 1;
    }

    static List<Integer> leastLargest(Line line, int k) {
        long[] apart = apart(line, k);
        Map<Long, Integer> known = new HashMap<>();
        long free = all(apart.length);
        List<Integer> code = new ArrayList<>();
        for (int v = 0; v < apart.length; v++) {
            if ((free >> v & 1) == 0) {
                continue;
            }
            int most = largest(apart, free, known);
            if (1 + largest(apart, free & apart[v], known) == most) {
                code.add(v);
                free &= apart[v];
            } else {
                free &= ~(1L << v);
            }
        }
        return code;
    }

    int most(int l, int k) {
        if (!isLine(l) || k < 1 || k > 6) {
            return RANGE;
        }
        if (words(lines[l], k) > 64) {
            return FULL;
        }
        code = leastLargest(lines[l], k);
        codeLength = k;
        codeAt = l;
        codeLine = lines[l];
        return code.size();
    }

    int word(int i) {
        return code == null || i < 0 || i >= code.size() ? NONE : code.get(i);
    }

    int ways(int l, int k) {
        if (!isLine(l) || k < 1 || k > 6) {
            return RANGE;
        }
        if (words(lines[l], k) > 24) {
            return FULL;
        }
        long[] apart = apart(lines[l], k);
        int[] bySize = new int[25];
        countCodes(apart, 0, all(apart.length), 0, bySize);
        int size = 24;
        while (bySize[size] == 0) {
            size--;
        }
        return bySize[size];
    }

    static void countCodes(long[] apart, int v, long free, int size, int[] bySize) {
        if (v == apart.length) {
            bySize[size]++;
            return;
        }
        countCodes(apart, v + 1, free, size, bySize);
        if ((free >> v & 1) != 0) {
            countCodes(apart, v + 1, free & apart[v], size + 1, bySize);
        }
    }

    static int[] leastHeaps(Line line) {
        for (int limit = 1; limit <= line.n; limit++) {
            int[] row = new int[line.n];
            if (place(line, row, 0, 0, limit)) {
                return row;
            }
        }
        return null;
    }

    static boolean place(Line line, int[] row, int a, int used, int limit) {
        if (a == line.n) {
            return true;
        }
        for (int h = 0; h <= used && h < limit; h++) {
            boolean fits = true;
            for (int b = 0; b < a; b++) {
                fits &= row[b] != h || line.pairs[a][b];
            }
            if (fits) {
                row[a] = h;
                if (place(line, row, a + 1, Math.max(used, h + 1), limit)) {
                    return true;
                }
            }
        }
        return false;
    }

    int heaps(int l) {
        if (!isLine(l)) {
            return RANGE;
        }
        heapRow = leastHeaps(lines[l]);
        return Arrays.stream(heapRow).max().getAsInt() + 1;
    }

    int heap(int a) {
        return heapRow == null || a < 0 || a >= heapRow.length ? NONE : heapRow[a];
    }

    int row(int l, int a, int i, int v) {
        if (!isLine(l) || a < -1 || a >= lines[l].n || i < 0 || i > 5 || v < -30 || v > 30) {
            return -31;
        }
        int[] row = a == -1 ? lines[l].handle : lines[l].rows[a];
        int was = row[i];
        row[i] = v;
        return was;
    }

    static int product(int[] a, int[] b) {
        int sum = 0;
        for (int i = 0; i < 6; i++) {
            sum += a[i] * b[i];
        }
        return sum;
    }

    int stands(int l) {
        if (!isLine(l)) {
            return RANGE;
        }
        Line line = lines[l];
        for (int a = 0; a < line.n; a++) {
            for (int b = a + 1; b < line.n; b++) {
                if (!line.pairs[a][b] && product(line.rows[a], line.rows[b]) != 0) {
                    return 100 * a + b;
                }
            }
        }
        for (int a = 0; a < line.n; a++) {
            if (product(line.rows[a], line.handle) == 0) {
                return 10000 + a;
            }
        }
        return NONE;
    }

    /** Above, below and the letter. */
    BigInteger[] boundOf(Line line) {
        BigInteger[] greatest = null;
        for (int a = 0; a < line.n; a++) {
            int[] r = line.rows[a];
            BigInteger p = BigInteger.valueOf(product(r, r)).multiply(BigInteger.valueOf(product(line.handle, line.handle)));
            BigInteger q = BigInteger.valueOf(product(r, line.handle)).pow(2);
            if (greatest == null || p.multiply(greatest[1]).compareTo(greatest[0].multiply(q)) > 0) {
                BigInteger g = p.gcd(q);
                greatest = new BigInteger[] {p.divide(g), q.divide(g), BigInteger.valueOf(a)};
            }
        }
        return greatest;
    }

    int bound(int l, int what) {
        if (!isLine(l) || what < 0 || what > 2) {
            return RANGE;
        }
        return stands(l) != NONE ? NONE : boundOf(lines[l])[what].intValueExact();
    }

    int compare(int s, int k, int t, int j) {
        if (s < 1 || s > 1000 || t < 1 || t > 1000 || k < 1 || k > 12 || j < 1 || j > 12) {
            return RANGE;
        }
        return BigInteger.valueOf(s).pow(j).compareTo(BigInteger.valueOf(t).pow(k));
    }

    /** Length and size. */
    int[] bestOf(Line line) {
        int[] best = null;
        for (int k = 1; k <= (line.n == 1 ? 1 : 6); k++) {
            if (words(line, k) <= 64) {
                int size = leastLargest(line, k).size();
                if (best == null || compare(size, k, best[1], best[0]) > 0) {
                    best = new int[] {k, size};
                }
            }
        }
        return best;
    }

    int best(int l) {
        return isLine(l) ? bestOf(lines[l])[0] : RANGE;
    }

    int met(int l) {
        if (!isLine(l)) {
            return RANGE;
        }
        int[] best = bestOf(lines[l]);
        BigInteger s = BigInteger.valueOf(best[1]);
        int fewest = Arrays.stream(leastHeaps(lines[l])).max().getAsInt() + 1;
        int bits = BigInteger.valueOf(fewest).pow(best[0]).equals(s) ? 1 : 0;
        if (stands(l) == NONE) {
            BigInteger[] bound = boundOf(lines[l]);
            bits += bound[0].pow(best[0]).equals(bound[1].pow(best[0]).multiply(s)) ? 2 : 0;
        }
        return bits;
    }

    int came(int l) {
        List<Integer> text = new ArrayList<>(tape);
        tape.clear();
        if (!isLine(l)) {
            return RANGE;
        }
        if (lines[l].kind != 1 || code == null || codeAt != l || codeLine != lines[l]) {
            return STATE;
        }
        text.removeIf(b -> b == 32 || b == 10);
        if (text.stream().anyMatch(b -> b < 97 || b > 120) || text.size() != codeLength) {
            return NONE;
        }
        List<Integer> could = new ArrayList<>();
        for (int word : code) {
            int[] letters = letters(lines[l], codeLength, word);
            boolean fits = true;
            for (int i = 0; i < codeLength; i++) {
                fits &= lines[l].signs.get(letters[i]).contains(text.get(i) - 97);
            }
            if (fits) {
                could.add(word);
            }
        }
        if (!could.isEmpty()) {
            sentWord = could.get(0);
        }
        return could.size();
    }

    int sent() {
        return sentWord;
    }

    int list(int at, int l) {
        if (!isLine(at) || l < 1 || l > 24) {
            return RANGE;
        }
        Line line = lines[at];
        if (line.kind != 1) {
            return STATE;
        }
        if (line.n > 16) {
            return FULL;
        }
        int least = 0;
        for (int set = 0; set < 1 << line.n; set++) {
            if (Integer.bitCount(set) > Integer.bitCount(least) && fitsLists(line, set, l)) {
                least = set;
            }
        }
        listedSet = least;
        return Integer.bitCount(least);
    }

    static boolean fitsLists(Line line, int set, int l) {
        int[] times = new int[24];
        for (int a = 0; a < line.n; a++) {
            if ((set >> a & 1) != 0) {
                for (int sign : line.signs.get(a)) {
                    times[sign]++;
                    if (times[sign] > l) {
                        return false;
                    }
                }
            }
        }
        return true;
    }

    int listed() {
        return listedSet;
    }

    int count(int what) {
        if (what == 0) {
            return tape.size();
        }
        if (code == null) {
            return NONE;
        }
        return what == 1 ? code.size() : what == 2 ? codeLength : what == 3 ? codeAt : NONE;
    }
}
