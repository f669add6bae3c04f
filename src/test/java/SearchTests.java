import java.util.List;
import java.util.Random;

/** The searches at their widest: 64 words, 24 letters, 16 letters of lists. */
public final class SearchTests {
    /** Of each letter those that it is mistaken with: lines sought out to make the search for heaps dear. */
    private static final int[][] DEAR = {
        {
            6589226, 1269893, 12622866, 10027201, 2515044, 10032145, 4235032, 6588682,
            10035905, 13738305, 2515044, 1638597, 2515044, 4232978, 13145106, 1270469,
            6589226, 4756498, 10032273, 2509096, 6589226, 10032273, 1270469, 2376492},
        {
            15646700, 15663052, 7986683, 14648919, 15658988, 16705109, 12024639, 16496151,
            14648919, 7986683, 12020671, 14124631, 6283975, 15848691, 13612662, 9927615,
            15663052, 7986683, 7986555, 10965951, 15122412, 10430199, 9927615, 7990779},
        {
            5373362, 11469805, 5373362, 5373362, 10879565, 11411983, 652690, 10651471,
            15631055, 1179058, 11469517, 11403789, 10617421, 11502189, 10879565, 11412429,
            15476303, 1113522, 4320562, 5352802, 11141645, 5373362, 11337997, 5373362},
        {
            11499246, 8352581, 16349179, 7959413, 13400812, 15938077, 2525471, 8091925,
            9008846, 3575103, 15194885, 13874896, 3575231, 3574207, 14124447, 11370048,
            14994863, 13139683, 9565779, 9601439, 13400750, 4306671, 11750590, 6278453},
        {
            8967110, 16248013, 16514683, 11852774, 11852772, 4941532, 16514367, 16727867,
            8109785, 8368573, 11852262, 5191134, 16494557, 3464166, 15705215, 13334367,
            11852774, 11852774, 16477850, 3464165, 7288798, 6256606, 11852774, 4707551},
        {
            11485022, 15695869, 8313843, 8313843, 7394447, 12543758, 7459983, 11431774,
            7451823, 13743279, 8313843, 15840399, 3100511, 6278051, 11613438, 15675228,
            14613347, 15840431, 13743279, 13743279, 9400188, 4382207, 11513694, 6277795}};
    private static final int[][] DEAR_ROWS = {
        {0, 0, 1, 2, 1, 3, 2, 4, 4, 5, 3, 6, 7, 5, 7, 5, 6, 8, 9, 8, 9, 10, 11, 10},
        {0, 1, 0, 0, 2, 2, 0, 1, 3, 1, 1, 4, 5, 2, 2, 2, 3, 3, 4, 3, 4, 1, 4, 2},
        {0, 0, 1, 2, 1, 0, 3, 2, 2, 4, 3, 4, 5, 6, 7, 2, 3, 5, 6, 3, 8, 7, 9, 8},
        {0, 1, 2, 2, 3, 0, 4, 3, 2, 0, 5, 3, 1, 3, 5, 4, 5, 0, 1, 2, 1, 4, 5, 5},
        {0, 1, 0, 1, 2, 2, 0, 1, 3, 2, 3, 1, 0, 4, 4, 0, 5, 6, 1, 0, 3, 3, 7, 5},
        {0, 0, 0, 1, 0, 1, 2, 2, 1, 3, 2, 4, 0, 3, 2, 3, 3, 5, 6, 7, 1, 0, 3, 4}};

    private static final Check check = new Check("SearchTests");
    private static final Random random = new Random(20261117L);

    /** Made anew for each line, as an object is promised for 512 calls alone. */
    private static NeverMistaken x;
    private static Model m;

    public static void main(String[] args) {
        ringsOfTwo();
        eightLetters();
        fourLetters();
        manyLetters();
        ringsInHeaps();
        heapsThatHold();
        threeless();
        dearLines();
        waysOfMany();
        listsOfSixteen();
        check.close();
    }

    private static void anew() {
        x = new NeverMistaken();
        m = new Model();
    }

    private static void ringsOfTwo() {
        int[] largest = {0, 0, 0, 1, 4, 5, 9, 10, 16};
        for (int n = 3; n <= 8; n++) {
            anew();
            x.ring(0, n);
            m.ring(0, n);
            check.due("ring of " + n, x.most(0, 2), largest[n]);
            sameCode(0, 2);
        }
    }

    private static void sameCode(int l, int k) {
        List<Integer> code = Model.leastLargest(m.lines[l], k);
        check.due("size", x.most(l, k), code.size());
        for (int i = 0; i < code.size(); i++) {
            check.due("word " + i, x.word(i), code.get(i));
        }
    }

    private static void randomLine(int n, int percent) {
        anew();
        x.net(0, n);
        m.net(0, n);
        for (int a = 0; a < n; a++) {
            for (int b = 0; b < a; b++) {
                boolean on = random.nextInt(100) < percent;
                x.mistake(0, a, b, on);
                m.mistake(0, a, b, on);
            }
        }
    }

    private static void eightLetters() {
        for (int i = 0; i < 300; i++) {
            randomLine(7 + i % 2, 30 + i % 60);
            sameCode(0, 2);
        }
    }

    private static void fourLetters() {
        for (int i = 0; i < 60; i++) {
            randomLine(3 + i % 2, 30 + i % 60);
            sameCode(0, 3);
        }
    }

    private static void manyLetters() {
        for (int i = 0; i < 400; i++) {
            randomLine(16 + i % 9, 3 + i % 95);
            sameCode(0, 1);
        }
    }

    private static void ringsInHeaps() {
        for (int n = 4; n <= 24; n++) {
            anew();
            x.ring(0, n);
            check.due("ring of " + n, x.heaps(0), (n + 1) / 2);
            for (int a = 0; a < n; a++) {
                check.due("ring of " + n + ", letter " + a, x.heap(a), a / 2);
            }
        }
    }

    /** With 24 letters: heaps hold only mistaken ones, and the least row is as the plain way finds it. */
    private static void heapsThatHold() {
        for (int i = 0; i < 300; i++) {
            int n = i < 200 ? 8 + i % 6 : 24;
            randomLine(n, 20 + i % 76);
            int fewest = x.heaps(0);
            int[] least = n < 24 ? Model.leastHeaps(m.lines[0]) : null;
            int[] row = new int[n];
            int used = 0;
            for (int a = 0; a < n; a++) {
                row[a] = x.heap(a);
                check.holds("numbered as they come", row[a] >= 0 && row[a] <= used);
                used = Math.max(used, row[a] + 1);
                check.due("least row", row[a], least == null ? row[a] : least[a]);
                for (int b = 0; b < a; b++) {
                    check.holds("mistaken", row[a] != row[b] || m.lines[0].pairs[a][b]);
                }
            }
            check.due("as many", used, fewest);
            check.holds("not fewer than the largest code", fewest >= x.most(0, 1));
        }
    }

    /** Lines without three letters mistaken for one another are the hardest to put in heaps. */
    private static void threeless() {
        for (int i = 0; i < 40; i++) {
            anew();
            int n = 21 + i % 4;
            int[] near = new int[n];
            x.net(0, n);
            for (int t = 0; t < 400; t++) {
                int a = random.nextInt(n);
                int b = random.nextInt(n);
                if (a != b && (near[a] & near[b]) == 0 && (near[a] >> b & 1) == 0) {
                    near[a] |= 1 << b;
                    near[b] |= 1 << a;
                    x.mistake(0, a, b, true);
                }
            }
            int fewest = x.heaps(0);
            check.holds("at least half", fewest >= (n + 1) / 2 && fewest <= n);
        }
    }

    private static void dearLines() {
        for (int i = 0; i < DEAR.length; i++) {
            anew();
            x.net(0, 24);
            for (int a = 0; a < 24; a++) {
                for (int b = 0; b < a; b++) {
                    x.mistake(0, a, b, (DEAR[i][a] >> b & 1) != 0);
                }
            }
            int fewest = x.heaps(0);
            for (int a = 0; a < 24; a++) {
                check.due("dear line " + i + ", letter " + a, x.heap(a), DEAR_ROWS[i][a]);
                check.holds("within the heaps", x.heap(a) < fewest);
            }
        }
    }

    private static void waysOfMany() {
        anew();
        for (int n = 4; n <= 24; n++) {
            x.ring(0, n);
            check.due("ways of a ring of " + n, x.ways(0, 1), n % 2 == 0 ? 2 : n);
        }
        // Four rings of 5, each with 5 ways, and four letters alone.
        x.ring(0, 5);
        x.either(0, 0, 1);
        x.either(1, 1, 1);
        x.net(2, 4);
        x.either(1, 2, 1);
        check.due("four rings", x.ways(1, 1), 625);
        check.due("their size", x.most(1, 1), 12);
        for (int i = 0; i < 60; i++) {
            randomLine(20, 10 + i);
            check.due("ways of 20 letters", x.ways(0, 1), m.ways(0, 1));
        }
    }

    private static void listsOfSixteen() {
        for (int i = 0; i < 60; i++) {
            anew();
            StringBuilder text = new StringBuilder();
            for (int a = 0; a < 16; a++) {
                text.append(a > 0 ? ";" : "").append((char) ('a' + random.nextInt(8)));
                for (char sign = 'i'; sign <= 'x'; sign++) {
                    text.append(random.nextInt(100) < 5 + i ? String.valueOf(sign) : "");
                }
            }
            Check.tell(x, 0, text.toString());
            for (int b = 0; b < text.length(); b++) {
                m.tape.add((int) text.charAt(b));
            }
            m.told(0);
            for (int l = 1; l <= 9; l++) {
                check.due("list", x.list(0, l), m.list(0, l));
                check.due("listed", x.listed(), m.listed());
            }
        }
    }
}
