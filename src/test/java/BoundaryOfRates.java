/** Promises 21 to 23: compare, best, met. */
public final class BoundaryOfRates extends Boundary {
    public static void main(String[] args) throws Exception {
        run(BoundaryOfRates.class, 21, 23);
    }

    // ---- compare

    @Sentence(of = 21, says = "(s, t 1 .. 1000; k, j 1 .. 12)")
    static void noSuchWords() {
        NeverMistaken x = new NeverMistaken();
        due("s -1", x.compare(-1, 1, 1, 1), RANGE);
        due("s 0", x.compare(0, 1, 1, 1), RANGE);
        due("s 1", x.compare(1, 1, 1, 1), 0);
        due("s 1000", x.compare(1000, 1, 1, 1), 1);
        due("s 1001", x.compare(1001, 1, 1, 1), RANGE);
        due("t -1", x.compare(1, 1, -1, 1), RANGE);
        due("t 0", x.compare(1, 1, 0, 1), RANGE);
        due("t 1000", x.compare(1, 1, 1000, 1), -1);
        due("t 1001", x.compare(1, 1, 1001, 1), RANGE);
        for (int far : FAR) {
            if (far < 1 || far > 1000) {
                due("s " + far, x.compare(far, 1, 1, 1), RANGE);
                due("t " + far, x.compare(1, 1, far, 1), RANGE);
            }
        }
    }

    @Sentence(of = 21, says = "(s, t 1 .. 1000; k, j 1 .. 12)")
    static void noSuchLengths() {
        NeverMistaken x = new NeverMistaken();
        due("k -1", x.compare(2, -1, 2, 6), RANGE);
        due("k 0", x.compare(2, 0, 2, 6), RANGE);
        due("k 1", x.compare(2, 1, 2, 6), 1);
        due("k 12", x.compare(2, 12, 2, 6), -1);
        due("k 13", x.compare(2, 13, 2, 6), RANGE);
        due("j -1", x.compare(2, 6, 2, -1), RANGE);
        due("j 0", x.compare(2, 6, 2, 0), RANGE);
        due("j 1", x.compare(2, 6, 2, 1), -1);
        due("j 12", x.compare(2, 6, 2, 12), 1);
        due("j 13", x.compare(2, 6, 2, 13), RANGE);
        for (int far : FAR) {
            due("k " + far, x.compare(2, far, 2, 6), RANGE);
            due("j " + far, x.compare(2, 6, 2, far), RANGE);
        }
    }

    @Sentence(of = 21, says = "-1 lower, 0 alike, 1 higher")
    static void greatestPowers() {
        NeverMistaken x = new NeverMistaken();
        due("alike", x.compare(1000, 12, 1000, 12), 0);
        due("lower", x.compare(999, 12, 1000, 12), -1);
        due("higher", x.compare(1000, 12, 999, 12), 1);
        due("1000 to the 12th against 1000", x.compare(1000, 1, 1000, 12), 1);
        due("1000 against 1000 to the 12th", x.compare(1000, 12, 1000, 1), -1);
        due("1 and 1", x.compare(1, 12, 1, 1), 0);
        due("1 and 2", x.compare(1, 1, 2, 12), -1);
        due("2 and 1", x.compare(2, 12, 1, 1), 1);
        due("2 to the 9th and 512", x.compare(512, 9, 2, 1), 0);
        due("2 to the 9th and 511", x.compare(511, 9, 2, 1), -1);
        due("2 to the 9th and 513", x.compare(513, 9, 2, 1), 1);
    }

    @Sentence(of = 21, says = "-1 lower, 0 alike, 1 higher")
    static void powersNearOneAnother() {
        // All these powers differ by less than a part in 100000.
        int[][] lower = {{473, 11, 828, 12}, {426, 8, 908, 9}, {95, 12, 65, 11}, {944, 9, 206, 7}, {337, 6, 889, 7},
            {168, 3, 927, 4}, {753, 8, 329, 7}, {133, 9, 229, 10}};
        NeverMistaken x = new NeverMistaken();
        for (int[] w : lower) {
            due(w[0] + " against " + w[2], x.compare(w[0], w[1], w[2], w[3]), -1);
            due(w[2] + " against " + w[0], x.compare(w[2], w[3], w[0], w[1]), 1);
        }
    }

    @Sentence(of = 21, says = "s WORDS of length k against t of length j")
    static void powersAlike() {
        NeverMistaken x = new NeverMistaken();
        for (int base = 1; base <= 10; base++) {
            int cube = base * base * base;
            due("cube of " + base, x.compare(base, 4, cube, 12), 0);
            due("one more", x.compare(base, 4, Math.min(1000, cube + 1), 12), cube == 1000 ? 0 : -1);
            due("one less", x.compare(base, 4, Math.max(1, cube - 1), 12), cube == 1 ? 0 : 1);
        }
    }

    // ---- best

    @Sentence(of = 22, says = "The length of the BEST of a LINE")
    static void lengthOneOrTwo() {
        NeverMistaken x = new NeverMistaken();
        due("one letter", x.best(0), 1);
        x.net(0, 2);
        due("two letters, six lengths alike", x.best(0), 1);
        x.ring(0, 4);
        due("a ring of 4", x.best(0), 1);
        x.ring(0, 5);
        due("a ring of 5", x.best(0), 2);
        x.ring(0, 24);
        due("a ring of 24", x.best(0), 1);
    }

    @Sentence(of = 22, says = "The length of the BEST of a LINE")
    static void lengthTwoWithAtMost64Words() {
        NeverMistaken x = new NeverMistaken();
        x.ring(0, 5);
        x.net(1, 3);
        x.either(0, 1, 2);
        due("8 letters, 26 of 64 words against 5", x.best(2), 2);
        x.net(1, 4);
        x.either(0, 1, 2);
        // 37 of 81 words would beat 6, but there are too many in all.
        due("9 letters have length 1 alone", x.best(2), 1);
    }

    @Sentence(of = 22, says = "The length of the BEST of a LINE")
    static void lengthTwoOfFiveToEightLetters() {
        // A ring of five, and letters mistaken with all: 5 words of length 2 always beat 2 of length 1.
        StringBuilder text = new StringBuilder("ab;bc;cd;de;ea");
        for (int n = 5; n <= 24; n++) {
            NeverMistaken x = new NeverMistaken();
            due(n + " letters", Check.tell(x, 0, text.toString()), n);
            due("best of " + n, x.best(0), n <= 8 ? 2 : 1);
            due("length 2 of " + n, x.most(0, 2), n <= 8 ? 5 : FULL);
            text.append(";abcde");
        }
    }

    @Sentence(of = 22, says = "The length of the BEST of a LINE")
    static void lengthOneAloneOfNineLetters() {
        // Lines whose first 64 of 81 words, held as if they were all, would make length 2 the best.
        int[][] lines = {
            {0, 1, 1, 3, 2, 3, 0, 4, 1, 4, 3, 4, 0, 5, 1, 5, 3, 5, 4, 5, 0, 7, 2, 7, 0, 8, 1, 8, 2, 8, 3, 8, 5, 8, 6, 8},
            {0, 1, 1, 4, 3, 4, 0, 5, 1, 5, 3, 5, 0, 6, 1, 6, 4, 6, 1, 7, 2, 7, 4, 7, 6, 7, 0, 8, 1, 8, 2, 8, 7, 8},
            {0, 1, 0, 2, 2, 4, 1, 5, 3, 5, 0, 6, 1, 6, 2, 6, 5, 6, 1, 7, 3, 7, 4, 7, 1, 8, 4, 8, 5, 8}};
        for (int[] pairs : lines) {
            NeverMistaken x = new NeverMistaken();
            Check.net(x, 0, 9, pairs);
            due("81 words", x.most(0, 2), FULL);
            due("best", x.best(0), 1);
        }
    }

    @Sentence(of = 22, says = "RANGE")
    static void bestOfNoSuchLine() {
        NeverMistaken x = new NeverMistaken();
        due("line -1", x.best(-1), RANGE);
        due("line 0", x.best(0), 1);
        due("line 7", x.best(7), 1);
        due("line 8", x.best(8), RANGE);
        for (int far : FAR) {
            due("line " + far, x.best(far), RANGE);
        }
    }

    // ---- met

    @Sentence(of = 23, says = "MET: bits")
    static void metByHeaps() {
        NeverMistaken x = new NeverMistaken();
        due("one letter", x.met(0), 1);
        x.net(0, 24);
        due("24 letters in 24 heaps", x.met(0), 1);
        Check.tell(x, 0, alike(24, "x"));
        due("one heap", x.met(0), 1);
        x.ring(0, 4);
        due("2 and 2", x.met(0), 1);
        x.ring(0, 5);
        due("5 and 9", x.met(0), 0);
        x.ring(0, 23);
        due("11 and 12", x.met(0), 0);
        x.ring(0, 24);
        due("12 and 12", x.met(0), 1);
    }

    @Sentence(of = 23, says = "MET: bits")
    static void metByRows() {
        NeverMistaken x = new NeverMistaken();
        x.row(0, 0, 0, 30);
        due("they don't stand", x.met(0), 1);
        x.row(0, -1, 0, 30);
        due("a bound of 1", x.met(0), 3);
        x.row(0, -1, 1, 1);
        due("a bound of 901 over 900", x.met(0), 1);
        x.net(0, 2);
        Check.row(x, 0, 0, 1, 0);
        Check.row(x, 0, 1, 0, 1);
        Check.row(x, 0, -1, 30, 30);
        due("a bound of 2", x.met(0), 3);
        Check.row(x, 0, -1, 30, 29);
        due("a bound of 1741 over 841", x.met(0), 1);
        Check.row(x, 0, -1, 30, 0);
        due("they don't stand", x.met(0), 1);
        Check.row(x, 0, -1, 30, 30);
        x.mistake(0, 0, 1, true);
        due("the rows are 0 again", x.met(0), 1);
    }

    @Sentence(of = 23, says = "MET: bits")
    static void metByRowsAlone() {
        NeverMistaken x = new NeverMistaken();
        PromiseTests.fourByRows(x, 0);
        due("4, five heaps, a bound of 4", x.met(0), 2);
        x.row(0, -1, 0, 30);
        due("the same handle, longer", x.met(0), 2);
        x.row(0, -1, 3, 1);
        due("they stand", x.stands(0), NONE);
        due("a bound above 4", x.met(0), 0);
        x.row(0, -1, 3, 0);
        x.row(0, 9, 0, 0);
        due("they don't stand", x.met(0), 0);
    }

    @Sentence(of = 23, says = "MET: bits")
    static void metByAGreatBound() {
        NeverMistaken x = new NeverMistaken();
        x.ring(0, 3);
        for (int a = 0; a < 3; a++) {
            Check.row(x, 0, a, 30, 30, 30, 30, 30, 29);
        }
        Check.row(x, 0, -1, -30, -30, 30, 30, -28, 29);
        due("they stand", x.stands(0), NONE);
        due("27906725 is not 1", x.met(0), 1);
    }

    @Sentence(of = 23, says = "RANGE")
    static void metOfNoSuchLine() {
        NeverMistaken x = new NeverMistaken();
        due("line -1", x.met(-1), RANGE);
        due("line 0", x.met(0), 1);
        due("line 7", x.met(7), 1);
        due("line 8", x.met(8), RANGE);
        for (int far : FAR) {
            due("line " + far, x.met(far), RANGE);
        }
    }
}
