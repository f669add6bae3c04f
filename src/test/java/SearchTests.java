import java.util.List;
import java.util.Random;

/** The searches at their widest: 64 words, 24 letters, 16 letters of lists. */
public final class SearchTests {
    private static final Check check = new Check("SearchTests");
    private static final Random random = new Random(20261117L);

    /** Made anew for each line, as an object is promised for 512 calls alone. */
    private static NeverMistaken x;
    private static Model m;

    public static void main(String[] args) {
        ringsOfTwo();
        eightLetters();
        fourLetters();
        manyLetters();
        ringsInHeaps();
        heapsThatHold();
        threeless();
        waysOfMany();
        listsOfSixteen();
        check.close();
    }

    private static void anew() {
        x = new NeverMistaken();
        m = new Model();
    }

    private static void ringsOfTwo() {
        int[] largest = {0, 0, 0, 1, 4, 5, 9, 10, 16};
        for (int n = 3; n <= 8; n++) {
            anew();
            x.ring(0, n);
            m.ring(0, n);
            check.due("ring of " + n, x.most(0, 2), largest[n]);
            sameCode(0, 2);
        }
    }

    private static void sameCode(int l, int k) {
        List<Integer> code = Model.leastLargest(m.lines[l], k);
        check.due("size", x.most(l, k), code.size());
        for (int i = 0; i < code.size(); i++) {
            check.due("word " + i, x.word(i), code.get(i));
        }
    }

    private static void randomLine(int n, int percent) {
        anew();
        x.net(0, n);
        m.net(0, n);
        for (int a = 0; a < n; a++) {
            for (int b = 0; b < a; b++) {
                boolean on = random.nextInt(100) < percent;
                x.mistake(0, a, b, on);
                m.mistake(0, a, b, on);
            }
        }
    }

    private static void eightLetters() {
        for (int i = 0; i < 300; i++) {
            randomLine(7 + i % 2, 30 + i % 60);
            sameCode(0, 2);
        }
    }

    private static void fourLetters() {
        for (int i = 0; i < 60; i++) {
            randomLine(3 + i % 2, 30 + i % 60);
            sameCode(0, 3);
        }
    }

    private static void manyLetters() {
        for (int i = 0; i < 400; i++) {
            randomLine(16 + i % 9, 3 + i % 95);
            sameCode(0, 1);
        }
    }

    private static void ringsInHeaps() {
        for (int n = 4; n <= 24; n++) {
            anew();
            x.ring(0, n);
            check.due("ring of " + n, x.heaps(0), (n + 1) / 2);
            for (int a = 0; a < n; a++) {
                check.due("ring of " + n + ", letter " + a, x.heap(a), a / 2);
            }
        }
    }

    /** With 24 letters: heaps hold only mistaken ones, and the least row is as the plain way finds it. */
    private static void heapsThatHold() {
        for (int i = 0; i < 300; i++) {
            int n = i < 200 ? 8 + i % 6 : 24;
            randomLine(n, 20 + i % 76);
            int fewest = x.heaps(0);
            int[] least = n < 24 ? Model.leastHeaps(m.lines[0]) : null;
            int[] row = new int[n];
            int used = 0;
            for (int a = 0; a < n; a++) {
                row[a] = x.heap(a);
                check.holds("numbered as they come", row[a] >= 0 && row[a] <= used);
                used = Math.max(used, row[a] + 1);
                check.due("least row", row[a], least == null ? row[a] : least[a]);
                for (int b = 0; b < a; b++) {
                    check.holds("mistaken", row[a] != row[b] || m.lines[0].pairs[a][b]);
                }
            }
            check.due("as many", used, fewest);
            check.holds("not fewer than the largest code", fewest >= x.most(0, 1));
        }
    }

    /** Lines without three letters mistaken for one another are the hardest to put in heaps. */
    private static void threeless() {
        for (int i = 0; i < 40; i++) {
            anew();
            int n = 21 + i % 4;
            int[] near = new int[n];
            x.net(0, n);
            for (int t = 0; t < 400; t++) {
                int a = random.nextInt(n);
                int b = random.nextInt(n);
                if (a != b && (near[a] & near[b]) == 0 && (near[a] >> b & 1) == 0) {
                    near[a] |= 1 << b;
                    near[b] |= 1 << a;
                    x.mistake(0, a, b, true);
                }
            }
            int fewest = x.heaps(0);
            check.holds("at least half", fewest >= (n + 1) / 2 && fewest <= n);
        }
    }

    private static void waysOfMany() {
        anew();
        for (int n = 4; n <= 24; n++) {
            x.ring(0, n);
            check.due("ways of a ring of " + n, x.ways(0, 1), n % 2 == 0 ? 2 : n);
        }
        // Four rings of 5, each with 5 ways, and four letters alone.
        x.ring(0, 5);
        x.either(0, 0, 1);
        x.either(1, 1, 1);
        x.net(2, 4);
        x.either(1, 2, 1);
        check.due("four rings", x.ways(1, 1), 625);
        check.due("their size", x.most(1, 1), 12);
        for (int i = 0; i < 60; i++) {
            randomLine(20, 10 + i);
            check.due("ways of 20 letters", x.ways(0, 1), m.ways(0, 1));
        }
    }

    private static void listsOfSixteen() {
        for (int i = 0; i < 60; i++) {
            anew();
            StringBuilder text = new StringBuilder();
            for (int a = 0; a < 16; a++) {
                text.append(a > 0 ? ";" : "").append((char) ('a' + random.nextInt(8)));
                for (char sign = 'i'; sign <= 'x'; sign++) {
                    text.append(random.nextInt(100) < 5 + i ? String.valueOf(sign) : "");
                }
            }
            Check.tell(x, 0, text.toString());
            for (int b = 0; b < text.length(); b++) {
                m.tape.add((int) text.charAt(b));
            }
            m.told(0);
            for (int l = 1; l <= 9; l++) {
                check.due("list", x.list(0, l), m.list(0, l));
                check.due("listed", x.listed(), m.listed());
            }
        }
    }
}
