import java.math.BigInteger;
import java.util.Arrays;
import java.util.Random;

/** What the terms say of every line: calls held against one another, without the model, so at any size. */
public final class LawsOfTerms extends Boundary {
    public static void main(String[] args) throws Exception {
        run(LawsOfTerms.class, 0, 0);
    }

    private static boolean[][] randomPairs(Random random, int n, int percent) {
        boolean[][] pairs = new boolean[n][n];
        for (int a = 0; a < n; a++) {
            for (int b = 0; b < a; b++) {
                pairs[a][b] = random.nextInt(100) < percent;
                pairs[b][a] = pairs[a][b];
            }
        }
        return pairs;
    }

    private static void tell(NeverMistaken x, int l, boolean[][] pairs) {
        x.net(l, pairs.length);
        for (int a = 0; a < pairs.length; a++) {
            for (int b = 0; b < a; b++) {
                if (pairs[a][b]) {
                    x.mistake(l, a, b, true);
                }
            }
        }
    }

    private static int[] order(Random random, int n) {
        int[] order = new int[n];
        for (int i = 0; i < n; i++) {
            int j = random.nextInt(i + 1);
            order[i] = order[j];
            order[j] = i;
        }
        return order;
    }

    /** Letter a of the first is letter order[a] here. */
    private static boolean[][] inOrder(boolean[][] pairs, int[] order) {
        boolean[][] other = new boolean[pairs.length][pairs.length];
        for (int a = 0; a < pairs.length; a++) {
            for (int b = 0; b < pairs.length; b++) {
                other[order[a]][order[b]] = pairs[a][b];
            }
        }
        return other;
    }

    private static int power(int n, int k) {
        return BigInteger.valueOf(n).pow(k).intValueExact();
    }

    private static int letter(int word, int n, int k, int place) {
        return word / power(n, k - 1 - place) % n;
    }

    private static boolean mistaken(boolean[][] pairs, int k, int v, int w) {
        for (int i = 0; i < k; i++) {
            int a = letter(v, pairs.length, k, i);
            int b = letter(w, pairs.length, k, i);
            if (a != b && !pairs[a][b]) {
                return false;
            }
        }
        return v != w;
    }

    private static int[] code(NeverMistaken x, int l, int k) {
        int[] code = new int[x.most(l, k)];
        for (int i = 0; i < code.length; i++) {
            code[i] = x.word(i);
        }
        due("no word more", x.word(code.length), NONE);
        return code;
    }

    private static int[] heapRow(NeverMistaken x, int l) {
        x.heaps(l);
        int[] row = new int[x.about(l, 0)];
        for (int a = 0; a < row.length; a++) {
            row[a] = x.heap(a);
        }
        return row;
    }

    private static int longest(int n) {
        int k = 1;
        while (n > 1 && k < 6 && Math.pow(n, k + 1) <= 64) {
            k++;
        }
        return k;
    }

    // ---- lines

    @Sentence(of = 0, says = "A NET is told by its pairs.")
    static void netsByTheirPairs() {
        Random random = new Random(1);
        for (int n = 1; n <= 24; n++) {
            boolean[][] pairs = randomPairs(random, n, 50);
            NeverMistaken x = new NeverMistaken();
            tell(x, 0, pairs);
            int ends = 0;
            for (int a = 0; a < n; a++) {
                int near = x.about(0, 10 + a);
                for (int b = 0; b < 24; b++) {
                    due("near", near >> b & 1, b < n && pairs[a][b] ? 1 : 0);
                }
                ends += Integer.bitCount(near);
            }
            due("pairs", x.about(0, 3), ends / 2);
        }
    }

    @Sentence(of = 0, says = "BOTH of two LINES: a LETTER for each pair")
    static void bothIsLengthTwo() {
        Random random = new Random(2);
        for (int i = 0; i < 120; i++) {
            int n = 1 + i % 4;
            NeverMistaken x = new NeverMistaken();
            tell(x, 0, randomPairs(random, n, 20 + i % 70));
            due("letters", x.both(0, 0, 1), n * n);
            for (int v = 0; v < n * n; v++) {
                for (int w = 0; w < v; w++) {
                    due("taken", x.taken(0, 2, v, w), x.about(1, 10 + v) >> w & 1);
                }
            }
            due("code", Arrays.equals(code(x, 0, 2), code(x, 1, 1)) ? 1 : 0, 1);
            due("ways", x.ways(0, 2), x.ways(1, 1));
        }
    }

    @Sentence(of = 0, says = "BOTH of two LINES: a LETTER for each pair")
    static void bothOfMoreIsLonger() {
        for (int pair = 0; pair < 2; pair++) {
            NeverMistaken x = new NeverMistaken();
            x.net(0, 2);
            x.mistake(0, 0, 1, pair == 1);
            x.both(0, 0, 1);
            x.both(1, 0, 2);
            x.both(1, 1, 3);
            due("length 3", Arrays.equals(code(x, 0, 3), code(x, 2, 1)) ? 1 : 0, 1);
            due("length 4", Arrays.equals(code(x, 0, 4), code(x, 3, 1)) ? 1 : 0, 1);
            due("length 6 by length 2 of 3", Arrays.equals(code(x, 0, 6), code(x, 2, 2)) ? 1 : 0, 1);
            due("length 6 by length 3 of 2", Arrays.equals(code(x, 0, 6), code(x, 1, 3)) ? 1 : 0, 1);
        }
    }

    @Sentence(of = 0, says = "EITHER: the LETTERS of the first, then those of the second")
    static void eitherAddsUp() {
        Random random = new Random(3);
        for (int i = 0; i < 200; i++) {
            int n = 1 + random.nextInt(23);
            int m = 1 + random.nextInt(24 - n);
            NeverMistaken x = new NeverMistaken();
            tell(x, 0, randomPairs(random, n, 10 + i % 80));
            tell(x, 1, randomPairs(random, m, 10 + random.nextInt(80)));
            due("letters", x.either(0, 1, 2), n + m);
            due("pairs", x.about(2, 3), x.about(0, 3) + x.about(1, 3));
            due("words", Arrays.equals(behind(code(x, 0, 1), code(x, 1, 1), n), code(x, 2, 1)) ? 1 : 0, 1);
            due("ways", x.ways(2, 1), x.ways(0, 1) * x.ways(1, 1));
            int fewest = x.heaps(0);
            due("heaps", x.heaps(2), fewest + x.heaps(1));
            due("row", Arrays.equals(behind(heapRow(x, 0), heapRow(x, 1), fewest), heapRow(x, 2)) ? 1 : 0, 1);
        }
    }

    /** One row, then another one with a number added to each. */
    private static int[] behind(int[] first, int[] second, int more) {
        int[] whole = Arrays.copyOf(first, first.length + second.length);
        for (int i = 0; i < second.length; i++) {
            whole[first.length + i] = second[i] + more;
        }
        return whole;
    }

    // ---- words, codes, heaps

    @Sentence(of = 0, says = "Two unlike ones are MISTAKEN, if in each place they are the same, or MISTAKEN there.")
    static void wordsPlaceByPlace() {
        Random random = new Random(4);
        for (int i = 0; i < 72; i++) {
            int n = 1 + i % 24;
            boolean[][] pairs = randomPairs(random, n, i < 24 ? 50 : 90);
            NeverMistaken x = new NeverMistaken();
            tell(x, 0, pairs);
            for (int t = 0; t < 100; t++) {
                int k = 1 + random.nextInt(6);
                int v = random.nextInt(power(n, k));
                int w = random.nextInt(power(n, k));
                due("taken", x.taken(0, k, v, w), v == w ? RANGE : mistaken(pairs, k, v, w) ? 1 : 0);
            }
        }
    }

    @Sentence(of = 0, says = "A CODE is a heap of WORDS of one length of which no two are MISTAKEN.")
    static void noTwoWordsOfACode() {
        Random random = new Random(5);
        for (int i = 0; i < 480; i++) {
            boolean[][] pairs = randomPairs(random, 1 + i % 24, 10 + random.nextInt(85));
            NeverMistaken x = new NeverMistaken();
            tell(x, 0, pairs);
            int k = 1 + random.nextInt(longest(pairs.length));
            int[] code = code(x, 0, k);
            boolean[] covered = new boolean[power(pairs.length, k)];
            for (int i1 = 0; i1 < code.length; i1++) {
                due("rising", i1 == 0 || code[i1 - 1] < code[i1] ? 1 : 0, 1);
                for (int v = 0; v < covered.length; v++) {
                    covered[v] |= v == code[i1] || mistaken(pairs, k, v, code[i1]);
                }
                for (int i2 = 0; i2 < i1; i2++) {
                    due("mistaken", mistaken(pairs, k, code[i1], code[i2]) ? 1 : 0, 0);
                }
            }
            for (boolean one : covered) {
                due("no word can be added", one ? 1 : 0, 1);
            }
        }
    }

    @Sentence(of = 0, says = "the greatest number that a CODE has")
    static void lettersInAnotherOrder() {
        Random random = new Random(6);
        for (int i = 0; i < 240; i++) {
            int n = 1 + i % 24;
            boolean[][] pairs = randomPairs(random, n, 10 + random.nextInt(85));
            int[] order = order(random, n);
            NeverMistaken x = new NeverMistaken();
            NeverMistaken y = new NeverMistaken();
            tell(x, 0, pairs);
            tell(y, 0, inOrder(pairs, order));
            for (int k = 1; k <= longest(n); k++) {
                int[] code = code(x, 0, k);
                int[] other = turnedBack(code(y, 0, k), order, k);
                due("as many words", code.length, other.length);
                due("the least row", Arrays.compare(code, other) <= 0 ? 1 : 0, 1);
                due("ways", x.ways(0, k), y.ways(0, k));
            }
            due("best", x.best(0), y.best(0));
            due("met", x.met(0), y.met(0));
        }
    }

    /** The words of a line in another order as those of the first, by rising numbers. */
    private static int[] turnedBack(int[] words, int[] order, int k) {
        int n = order.length;
        int[] back = new int[n];
        for (int a = 0; a < n; a++) {
            back[order[a]] = a;
        }
        int[] turned = new int[words.length];
        for (int i = 0; i < words.length; i++) {
            for (int place = 0; place < k; place++) {
                turned[i] = turned[i] * n + back[letter(words[i], n, k, place)];
            }
        }
        Arrays.sort(turned);
        return turned;
    }

    @Sentence(of = 0, says = "the greatest number that a CODE has")
    static void onePairMore() {
        Random random = new Random(7);
        for (int i = 0; i < 200; i++) {
            int n = 2 + i % 23;
            boolean[][] pairs = randomPairs(random, n, 10 + random.nextInt(85));
            NeverMistaken x = new NeverMistaken();
            tell(x, 0, pairs);
            for (int t = 0; t < 12; t++) {
                int a = random.nextInt(n);
                int b = (a + 1 + random.nextInt(n - 1)) % n;
                x.mistake(0, a, b, false);
                int words = x.most(0, 1);
                int heaps = x.heaps(0);
                due("otherwise", x.mistake(0, a, b, true), 1);
                int fewerWords = words - x.most(0, 1);
                int fewerHeaps = heaps - x.heaps(0);
                due("at most one word fewer", fewerWords == 0 || fewerWords == 1 ? 1 : 0, 1);
                due("at most one heap fewer", fewerHeaps == 0 || fewerHeaps == 1 ? 1 : 0, 1);
            }
        }
    }

    @Sentence(of = 0, says = "its LETTERS put in heaps, each in one, any two in one heap MISTAKEN: the fewest heaps")
    static void heapsInAnotherOrder() {
        Random random = new Random(8);
        for (int i = 0; i < 480; i++) {
            int n = 1 + i % 24;
            boolean[][] pairs = randomPairs(random, n, 5 + random.nextInt(92));
            int[] order = order(random, n);
            NeverMistaken x = new NeverMistaken();
            NeverMistaken y = new NeverMistaken();
            tell(x, 0, pairs);
            tell(y, 0, inOrder(pairs, order));
            due("heaps", x.heaps(0), y.heaps(0));
            int[] row = heapRow(x, 0);
            int[] turned = heapRow(y, 0);
            int[] other = new int[n];
            for (int a = 0; a < n; a++) {
                other[a] = turned[order[a]];
                for (int b = 0; b < a; b++) {
                    due("mistaken", row[a] != row[b] || pairs[a][b] ? 1 : 0, 1);
                }
            }
            due("as they come", Arrays.equals(row, asTheyCome(row)) ? 1 : 0, 1);
            due("the least row", Arrays.compare(row, asTheyCome(other)) <= 0 ? 1 : 0, 1);
            due("as many", Arrays.stream(row).max().getAsInt() + 1, x.heaps(0));
        }
    }

    @Sentence(of = 0, says = "told is the least row (heaps numbered as they come, LETTER by LETTER)")
    static void noLesserRow() {
        Random random = new Random(18);
        for (int i = 0; i < 120; i++) {
            int n = 1 + i % 24;
            boolean[][] pairs = randomPairs(random, n, 5 + random.nextInt(92));
            NeverMistaken x = new NeverMistaken();
            tell(x, 0, pairs);
            int[] row = heapRow(x, 0);
            int fewest = x.heaps(0);
            for (int a = 0; a < n; a++) {
                for (int lesser = 0; lesser < row[a]; lesser++) {
                    int[] start = Arrays.copyOf(row, a + 1);
                    start[a] = lesser;
                    due("letter " + a + " in heap " + lesser, canEnd(pairs, start, fewest) ? 1 : 0, 0);
                }
            }
            due("the row itself", canEnd(pairs, row, fewest) ? 1 : 0, 1);
        }
    }

    /** Whether a row that starts so has as few heaps: each heap begun is one letter, apart from the other ones. */
    private static boolean canEnd(boolean[][] pairs, int[] start, int fewest) {
        int begun = Arrays.stream(start).max().getAsInt() + 1;
        boolean[][] joined = new boolean[begun + pairs.length - start.length][];
        for (int p = 0; p < joined.length; p++) {
            joined[p] = new boolean[joined.length];
            for (int q = 0; q < joined.length; q++) {
                joined[p][q] = p != q && (p >= begun || q >= begun);
            }
        }
        for (int a = 0; a < pairs.length; a++) {
            for (int b = 0; b < a; b++) {
                int p = a < start.length ? start[a] : begun + a - start.length;
                int q = b < start.length ? start[b] : begun + b - start.length;
                if (p == q && !pairs[a][b]) {
                    return false;
                }
                joined[p][q] &= pairs[a][b];
                joined[q][p] &= pairs[a][b];
            }
        }
        NeverMistaken x = new NeverMistaken();
        tell(x, 0, joined);
        return x.heaps(0) <= fewest;
    }

    private static int[] asTheyCome(int[] row) {
        int[] number = new int[24];
        Arrays.fill(number, NONE);
        int[] anew = new int[row.length];
        int used = 0;
        for (int a = 0; a < row.length; a++) {
            if (number[row[a]] == NONE) {
                number[row[a]] = used;
                used++;
            }
            anew[a] = number[row[a]];
        }
        return anew;
    }

    @Sentence(of = 0, says = "(Nor more than the number of HEAPS to the k-th.)")
    static void notMoreThanHeaps() {
        Random random = new Random(9);
        for (int i = 0; i < 240; i++) {
            int n = 1 + i % 24;
            NeverMistaken x = new NeverMistaken();
            tell(x, 0, randomPairs(random, n, 10 + random.nextInt(85)));
            for (int k = 1; k <= longest(n); k++) {
                due("not more", x.compare(x.most(0, k), k, x.heaps(0), 1) <= 0 ? 1 : 0, 1);
            }
        }
    }

    // ---- rows

    private static int product(int[] a, int[] b) {
        int sum = 0;
        for (int i = 0; i < 6; i++) {
            sum += a[i] * b[i];
        }
        return sum;
    }

    /** Rows of so many letters, and behind them a handle that none of them has the product 0 with. */
    private static int[][] randomRows(Random random, int n) {
        int[][] rows = new int[n + 1][6];
        for (int i = 0; i < 6; i++) {
            rows[n][i] = 1 + random.nextInt(random.nextBoolean() ? 3 : 30);
        }
        for (int a = 0; a < n; a++) {
            while (product(rows[a], rows[n]) == 0) {
                rows[a] = new int[6];
                for (int t = 0; t <= random.nextInt(3); t++) {
                    rows[a][random.nextInt(6)] = random.nextInt(3) == 0 ? random.nextInt(61) - 30 : random.nextInt(5) - 2;
                }
            }
        }
        return rows;
    }

    /** A net with just the pairs that the rows need to stand. */
    private static void tellRows(NeverMistaken x, int[][] rows) {
        int n = rows.length - 1;
        boolean[][] pairs = new boolean[n][n];
        for (int a = 0; a < n; a++) {
            for (int b = 0; b < n; b++) {
                pairs[a][b] = a != b && product(rows[a], rows[b]) != 0;
            }
        }
        tell(x, 0, pairs);
        for (int a = 0; a <= n; a++) {
            Check.row(x, 0, a < n ? a : -1, rows[a]);
        }
    }

    @Sentence(of = 0, says = "no CODE of length k has more WORDS than it to the k-th power")
    static void notMoreThanTheBound() {
        Random random = new Random(10);
        for (int i = 0; i < 480; i++) {
            int n = 1 + i % 16;
            NeverMistaken x = new NeverMistaken();
            tellRows(x, randomRows(random, n));
            due("they stand", x.stands(0), NONE);
            BigInteger above = BigInteger.valueOf(x.bound(0, 0));
            BigInteger below = BigInteger.valueOf(x.bound(0, 1));
            for (int k = 1; k <= longest(n); k++) {
                BigInteger words = BigInteger.valueOf(x.most(0, k));
                due("not more", words.multiply(below.pow(k)).compareTo(above.pow(k)) <= 0 ? 1 : 0, 1);
            }
        }
    }

    @Sentence(of = 0, says = "its row times itself, times the HANDLE times itself, over the square of the product of both; the greatest is the BOUND by ROWS")
    static void theGreatestBound() {
        Random random = new Random(11);
        for (int i = 0; i < 480; i++) {
            int n = 1 + i % 16;
            int[][] rows = randomRows(random, n);
            NeverMistaken x = new NeverMistaken();
            tellRows(x, rows);
            BigInteger above = BigInteger.valueOf(x.bound(0, 0));
            BigInteger below = BigInteger.valueOf(x.bound(0, 1));
            due("cut", above.gcd(below).intValueExact(), 1);
            int first = NONE;
            for (int a = n - 1; a >= 0; a--) {
                BigInteger over = BigInteger.valueOf((long) product(rows[a], rows[a]) * product(rows[n], rows[n]));
                BigInteger under = BigInteger.valueOf(product(rows[a], rows[n])).pow(2);
                int held = over.multiply(below).compareTo(above.multiply(under));
                due("none is greater", held <= 0 ? 1 : 0, 1);
                first = held == 0 ? a : first;
            }
            due("the first that has it", x.bound(0, 2), first);
        }
    }

    @Sentence(of = 0, says = "They STAND, if any two LETTERS that are not MISTAKEN have the product 0")
    static void onePairFewer() {
        Random random = new Random(12);
        for (int i = 0; i < 200; i++) {
            int n = 2 + i % 15;
            int[][] rows = randomRows(random, n);
            NeverMistaken x = new NeverMistaken();
            tellRows(x, rows);
            int a = random.nextInt(n);
            int b = (a + 1 + random.nextInt(n - 1)) % n;
            boolean was = (x.about(0, 10 + a) >> b & 1) != 0;
            x.mistake(0, a, b, !was);
            for (int c = 0; c <= n; c++) {
                Check.row(x, 0, c < n ? c : -1, rows[c]);
            }
            due("stand no more if the pair was needed", x.stands(0), was ? 100 * Math.min(a, b) + Math.max(a, b) : NONE);
        }
    }

    // ---- rates, what came, lists

    @Sentence(of = 0, says = "s WORDS of length k are held against t of length j by s to the j and t to the k, exactly.")
    static void powersHeldExactly() {
        Random random = new Random(13);
        NeverMistaken x = null;
        for (int i = 0; i < 20000; i++) {
            x = i % 256 == 0 ? new NeverMistaken() : x;
            int k = 1 + random.nextInt(12);
            int j = 1 + random.nextInt(12);
            int s = 1 + random.nextInt(1000);
            // As near to s of length k as can be.
            int t = (int) Math.round(Math.pow(s, (double) j / k)) + random.nextInt(3) - 1;
            t = Math.max(1, Math.min(1000, t));
            int due = BigInteger.valueOf(s).pow(j).compareTo(BigInteger.valueOf(t).pow(k));
            due("compare(" + s + ", " + k + ", " + t + ", " + j + ")", x.compare(s, k, t, j), due);
            due("turned", x.compare(t, j, s, k), -due);
        }
    }

    @Sentence(of = 0, says = "that whose LARGEST has the greatest RATE, the first of such")
    static void theBestLength() {
        Random random = new Random(14);
        for (int i = 0; i < 400; i++) {
            int n = 1 + i % 10;
            NeverMistaken x = new NeverMistaken();
            if (i % 7 == 0) {
                x.ring(0, 3 + i % 6);
                n = 3 + i % 6;
            } else {
                tell(x, 0, randomPairs(random, n, 30 + random.nextInt(60)));
            }
            int best = x.best(0);
            int words = x.most(0, best);
            for (int k = 1; k <= longest(n); k++) {
                int held = x.compare(words, best, x.most(0, k), k);
                due("length " + k, held > 0 || held == 0 && best <= k ? 1 : 0, 1);
            }
        }
    }

    @Sentence(of = 0, says = "MET: that RATE is as great as the HEAPS allow (bit 1), or the ROWS, if they STAND (bit 2)")
    static void metByTheOtherCalls() {
        Random random = new Random(15);
        int[] seen = new int[4];
        for (int i = 0; i < 1200; i++) {
            int n = 1 + i % 8;
            int[][] rows = i % 3 == 0 ? randomRows(random, n) : rowsOnAxes(random, n);
            NeverMistaken x = new NeverMistaken();
            tellRows(x, rows);
            if (i % 5 == 0) {
                x.row(0, -1, 0, random.nextInt(61) - 30);
            }
            int best = x.best(0);
            int words = x.most(0, best);
            int bits = x.compare(words, best, x.heaps(0), 1) == 0 ? 1 : 0;
            if (x.stands(0) == NONE) {
                BigInteger above = BigInteger.valueOf(x.bound(0, 0)).pow(best);
                BigInteger below = BigInteger.valueOf(x.bound(0, 1)).pow(best);
                bits += above.equals(below.multiply(BigInteger.valueOf(words))) ? 2 : 0;
            }
            due("met", x.met(0), bits);
            seen[bits]++;
        }
        due("with and without rows", seen[1] > 9 && seen[3] > 9 ? 1 : 0, 1);
    }

    /** The bound by these is as many as there are axes, and the largest code if each axis has a letter. */
    private static int[][] rowsOnAxes(Random random, int n) {
        int axes = 1 + random.nextInt(Math.min(n, 6));
        int[][] rows = new int[n + 1][6];
        Arrays.fill(rows[n], 0, axes, 1 + random.nextInt(30));
        for (int a = 0; a < n; a++) {
            rows[a][a < 2 ? a % axes : random.nextInt(axes)] = 1 + random.nextInt(30);
        }
        return rows;
    }

    private static String randomText(Random random, int letters, int signs) {
        StringBuilder text = new StringBuilder();
        for (int a = 0; a < letters; a++) {
            text.append(a > 0 ? ";" : "");
            int[] order = order(random, signs);
            int many = 1 + random.nextInt(Math.min(3, signs));
            for (int i = 0; i < many; i++) {
                text.append((char) ('a' + order[i]));
            }
        }
        return text.toString();
    }

    @Sentence(of = 0, says = "which rows of letters can be sent so that none is ever taken for another one")
    static void whatIsSentIsReadBack() {
        Random random = new Random(16);
        for (int i = 0; i < 400; i++) {
            int n = 1 + random.nextInt(24);
            String text = randomText(random, n, 1 + random.nextInt(24));
            String[] letters = text.split(";");
            NeverMistaken x = new NeverMistaken();
            Check.tell(x, 0, text);
            int k = 1 + random.nextInt(longest(n));
            int[] code = code(x, 0, k);
            for (int t = 0; t < 20; t++) {
                int word = code[random.nextInt(code.length)];
                StringBuilder came = new StringBuilder();
                for (int place = 0; place < k; place++) {
                    String signs = letters[letter(word, n, k, place)];
                    came.append(signs.charAt(random.nextInt(signs.length())));
                }
                due("one word alone", Check.read(x, 0, came.toString()), 1);
                due("and that one", x.sent(), word);
            }
        }
    }

    @Sentence(of = 0, says = "LISTS of l: a heap of LETTERS of a TOLD line so that no SIGN may come of more than l of them: the greatest number")
    static void listsGrow() {
        Random random = new Random(17);
        for (int i = 0; i < 400; i++) {
            int n = 1 + i % 16;
            NeverMistaken x = new NeverMistaken();
            Check.tell(x, 0, randomText(random, n, 1 + random.nextInt(24)));
            due("lists of one are codes", x.list(0, 1), x.most(0, 1));
            int before = 0;
            for (int l = 1; l <= 24; l++) {
                int now = x.list(0, l);
                due("one more each, or all", now > before || now == n ? 1 : 0, 1);
                due("as many", Integer.bitCount(x.listed()), now);
                due("of these", x.listed() >>> n, 0);
                due("all if l is as many", l < n || now == n ? 1 : 0, 1);
                before = now;
            }
        }
    }
}
