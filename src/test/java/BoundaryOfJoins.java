/** Promises 9 to 12: both, either, about, taken. */
public final class BoundaryOfJoins extends Boundary {
    public static void main(String[] args) throws Exception {
        run(BoundaryOfJoins.class, 9, 12);
    }

    // ---- both

    @Sentence(of = 9, says = "LINE to is BOTH of l and m (these may be it)")
    static void bothIntoItself() {
        for (int to = 0; to <= 2; to++) {
            NeverMistaken x = new NeverMistaken();
            x.ring(0, 4);
            Check.net(x, 1, 3, 1, 2);
            due("letters", x.both(0, 1, to), 12);
            // Letter 11 is 3 and 2, near 0, 2, 3 and 1, 2.
            due("near the last", x.about(to, 21), (0b110 | 0b110 << 6 | 0b110 << 9) & ~(1 << 11));
            due("near the first", x.about(to, 10), 1 << 3 | 1 << 9);
            due("kind", x.about(to, 1), 0);
        }
    }

    @Sentence(of = 9, says = "(these may be it)")
    static void bothOfOneAlone() {
        NeverMistaken x = new NeverMistaken();
        Check.net(x, 0, 3, 0, 2);
        due("letters", x.both(0, 0, 0), 9);
        due("near the first", x.about(0, 10), 1 << 2 | 1 << 6 | 1 << 8);
        due("near the middle", x.about(0, 14), 0);
        due("near the last", x.about(0, 18), 1 << 0 | 1 << 2 | 1 << 6);
    }

    @Sentence(of = 9, says = "RANGE: no such")
    static void bothOfNoSuchLine() {
        NeverMistaken x = new NeverMistaken();
        for (int wrong : new int[] {-1, 8, Integer.MIN_VALUE, Integer.MAX_VALUE}) {
            due("first " + wrong, x.both(wrong, 0, 0), RANGE);
            due("second " + wrong, x.both(0, wrong, 0), RANGE);
            due("to " + wrong, x.both(0, 0, wrong), RANGE);
        }
        due("0, 7, 7", x.both(0, 7, 7), 1);
        due("7, 0, 0", x.both(7, 0, 0), 1);
    }

    @Sentence(of = 9, says = "FULL: more than 24")
    static void bothOfTooMany() {
        int[][] sizes = {{1, 24}, {24, 1}, {2, 12}, {12, 2}, {4, 6}, {6, 4}, {3, 8}, {5, 5}, {2, 13}, {13, 2}, {24, 2}, {24, 24}};
        for (int[] size : sizes) {
            NeverMistaken x = new NeverMistaken();
            x.net(0, size[0]);
            x.net(1, size[1]);
            int total = size[0] * size[1];
            due(size[0] + " times " + size[1], x.both(0, 1, 2), total > 24 ? FULL : total);
            due("letters then", x.about(2, 0), total > 24 ? 1 : total);
        }
    }

    @Sentence(of = 9, says = "RANGE: no such; FULL: more than 24")
    static void bothRefusedLeavesTheLine() {
        NeverMistaken x = new NeverMistaken();
        x.ring(0, 5);
        x.row(0, 4, 5, 30);
        due("too many", x.both(0, 0, 0), FULL);
        due("no such, and too many", x.both(0, 0, 8), RANGE);
        due("kind", x.about(0, 1), 2);
        due("letters", x.about(0, 0), 5);
        due("pairs", x.about(0, 3), 5);
        due("rows", x.row(0, 4, 5, 0), 30);
    }

    // ---- either

    @Sentence(of = 10, says = "LINE to is EITHER of l and m: likewise")
    static void eitherIntoItself() {
        for (int to = 0; to <= 2; to++) {
            NeverMistaken x = new NeverMistaken();
            x.ring(0, 4);
            Check.net(x, 1, 3, 1, 2);
            due("letters", x.either(0, 1, to), 7);
            due("near the first", x.about(to, 10), 0b1010);
            due("near the last of the first", x.about(to, 13), 0b0101);
            due("near the first of the second", x.about(to, 14), 0);
            due("near the last", x.about(to, 16), 1 << 5);
            due("kind", x.about(to, 1), 0);
        }
    }

    @Sentence(of = 10, says = "likewise")
    static void eitherOfNoSuchLine() {
        NeverMistaken x = new NeverMistaken();
        for (int wrong : new int[] {-1, 8, Integer.MIN_VALUE, Integer.MAX_VALUE}) {
            due("first " + wrong, x.either(wrong, 0, 0), RANGE);
            due("second " + wrong, x.either(0, wrong, 0), RANGE);
            due("to " + wrong, x.either(0, 0, wrong), RANGE);
        }
        due("0, 7, 7", x.either(0, 7, 7), 2);
        due("7, 0, 0", x.either(7, 0, 0), 3);
    }

    @Sentence(of = 10, says = "likewise")
    static void eitherOfTooMany() {
        int[][] sizes = {{1, 23}, {23, 1}, {12, 12}, {1, 24}, {24, 1}, {12, 13}, {13, 12}, {24, 24}};
        for (int[] size : sizes) {
            NeverMistaken x = new NeverMistaken();
            x.net(0, size[0]);
            x.net(1, size[1]);
            int total = size[0] + size[1];
            due(size[0] + " and " + size[1], x.either(0, 1, 2), total > 24 ? FULL : total);
            due("letters then", x.about(2, 0), total > 24 ? 1 : total);
        }
    }

    @Sentence(of = 10, says = "likewise")
    static void eitherRefusedLeavesTheLine() {
        NeverMistaken x = new NeverMistaken();
        x.ring(0, 13);
        x.row(0, 12, 5, 30);
        due("too many", x.either(0, 0, 0), FULL);
        due("no such, and too many", x.either(0, 0, 8), RANGE);
        due("kind", x.about(0, 1), 2);
        due("letters", x.about(0, 0), 13);
        due("pairs", x.about(0, 3), 13);
        due("rows", x.row(0, 12, 5, 0), 30);
    }

    // ---- about

    @Sentence(of = 11, says = "what 0: LETTERS")
    static void aboutLetters() {
        NeverMistaken x = new NeverMistaken();
        due("at first", x.about(0, 0), 1);
        x.net(0, 24);
        due("most", x.about(0, 0), 24);
        due("what -1", x.about(0, -1), NONE);
    }

    @Sentence(of = 11, says = "1: 0 NET, 1 TOLD, 2 RING")
    static void aboutKind() {
        NeverMistaken x = new NeverMistaken();
        due("a net", x.about(0, 1), 0);
        Check.tell(x, 0, "a");
        due("told", x.about(0, 1), 1);
        x.ring(0, 3);
        due("a ring", x.about(0, 1), 2);
        x.both(0, 1, 0);
        due("both", x.about(0, 1), 0);
        x.ring(0, 3);
        x.either(0, 1, 0);
        due("either", x.about(0, 1), 0);
        due("what 2", x.about(0, 2), NONE);
    }

    @Sentence(of = 11, says = "3: pairs that are MISTAKEN")
    static void aboutPairs() {
        NeverMistaken x = new NeverMistaken();
        due("one letter", x.about(0, 3), 0);
        x.net(0, 24);
        due("none", x.about(0, 3), 0);
        x.mistake(0, 0, 23, true);
        due("one", x.about(0, 3), 1);
        Check.tell(x, 0, alike(24, "x"));
        due("all", x.about(0, 3), 276);
    }

    @Sentence(of = 11, says = "4: SIGNS that may come out (0 but of TOLD ones)")
    static void aboutSigns() {
        NeverMistaken x = new NeverMistaken();
        Check.tell(x, 0, "x");
        due("one", x.about(0, 4), 1);
        Check.tell(x, 0, "x;x;x");
        due("one of three letters", x.about(0, 4), 1);
        Check.tell(x, 0, apart(24));
        due("all", x.about(0, 4), 24);
        x.ring(0, 24);
        due("a ring", x.about(0, 4), 0);
        x.net(0, 24);
        due("a net", x.about(0, 4), 0);
        due("what 5", x.about(0, 5), NONE);
    }

    @Sentence(of = 11, says = "10 + a: with which LETTERS a is MISTAKEN, as bits")
    static void aboutNear() {
        NeverMistaken x = new NeverMistaken();
        due("what 9", x.about(0, 9), NONE);
        due("one letter", x.about(0, 10), 0);
        due("no other", x.about(0, 11), NONE);
        x.ring(0, 24);
        due("letter 0", x.about(0, 10), 1 << 23 | 1 << 1);
        due("letter 23", x.about(0, 33), 1 << 22 | 1);
        for (int what = 34; what <= 39; what++) {
            due("what " + what, x.about(0, what), NONE);
        }
        Check.tell(x, 0, alike(24, "a"));
        due("all but itself", x.about(0, 10), (1 << 24) - 2);
        due("all but itself", x.about(0, 33), (1 << 23) - 1);
        due("no letter 24", x.about(0, 34), NONE);
        due("what 39", x.about(0, 39), NONE);
    }

    @Sentence(of = 11, says = "40 + a: its SIGNS, as bits (of TOLD ones alone)")
    static void aboutItsSigns() {
        NeverMistaken x = new NeverMistaken();
        Check.tell(x, 0, "a;x;abcdefghijklmnopqrstuvwx");
        due("the first sign", x.about(0, 40), 1);
        due("the last sign", x.about(0, 41), 1 << 23);
        due("every sign", x.about(0, 42), (1 << 24) - 1);
        due("no letter 3", x.about(0, 43), NONE);
        Check.tell(x, 0, apart(24));
        due("letter 23", x.about(0, 63), 1 << 23);
        due("no letter 24", x.about(0, 64), NONE);
        x.both(0, 1, 2);
        x.ring(0, 24);
        due("a ring", x.about(0, 40), NONE);
        due("a ring", x.about(0, 63), NONE);
        due("a net", x.about(2, 40), NONE);
        due("a net", x.about(2, 63), NONE);
    }

    @Sentence(of = 11, says = "NONE when there is none such")
    static void aboutNoneSuch() {
        NeverMistaken x = new NeverMistaken();
        for (int what : new int[] {0, 1, 3, 4, 10}) {
            due("line -1, " + what, x.about(-1, what), NONE);
            due("line 0, " + what, x.about(0, what), what == 0 ? 1 : 0);
            due("line 7, " + what, x.about(7, what), what == 0 ? 1 : 0);
            due("line 8, " + what, x.about(8, what), NONE);
        }
        Check.tell(x, 0, apart(24));
        for (int far : FAR) {
            due("line " + far, x.about(far, 0), NONE);
            due("what " + far, x.about(0, far), NONE);
        }
    }

    // ---- taken

    @Sentence(of = 12, says = "1 if two WORDS of length k are MISTAKEN, 0 if not")
    static void takenOrNot() {
        NeverMistaken x = new NeverMistaken();
        x.ring(0, 5);
        // 00 and 04, 40, 44: around the ring in each place.
        due("00 04", x.taken(0, 2, 0, 4), 1);
        due("00 40", x.taken(0, 2, 0, 20), 1);
        due("00 44", x.taken(0, 2, 0, 24), 1);
        due("00 03", x.taken(0, 2, 0, 3), 0);
        due("00 30", x.taken(0, 2, 0, 15), 0);
        due("00 43", x.taken(0, 2, 0, 23), 0);
        due("00 34", x.taken(0, 2, 0, 19), 0);
        due("turned", x.taken(0, 2, 24, 0), 1);
        due("turned", x.taken(0, 2, 19, 0), 0);
        due("apart in the first of six", x.taken(0, 6, 0, 2 * 3125), 0);
        due("apart in the last of six", x.taken(0, 6, 0, 2), 0);
        due("apart in none of six", x.taken(0, 6, 0, 15624), 1);
    }

    @Sentence(of = 12, says = "RANGE: no such LINE")
    static void takenOfNoSuchLine() {
        NeverMistaken x = new NeverMistaken();
        x.net(0, 2);
        x.net(7, 2);
        due("line -1", x.taken(-1, 1, 0, 1), RANGE);
        due("line 0", x.taken(0, 1, 0, 1), 0);
        due("line 7", x.taken(7, 1, 0, 1), 0);
        due("line 8", x.taken(8, 1, 0, 1), RANGE);
        for (int far : FAR) {
            due("line " + far, x.taken(far, 1, 0, 1), RANGE);
        }
    }

    @Sentence(of = 12, says = "RANGE: no such LINE, length")
    static void takenOfNoSuchLength() {
        NeverMistaken x = new NeverMistaken();
        x.ring(0, 3);
        due("length -1", x.taken(0, -1, 0, 1), RANGE);
        due("length 0", x.taken(0, 0, 0, 1), RANGE);
        for (int k = 1; k <= 6; k++) {
            due("length " + k, x.taken(0, k, 0, 1), 1);
        }
        due("length 7", x.taken(0, 7, 0, 1), RANGE);
        for (int far : FAR) {
            due("length " + far, x.taken(0, far, 0, 1), RANGE);
        }
    }

    @Sentence(of = 12, says = "RANGE: no such LINE, length, WORDS")
    static void takenOfNoSuchWords() {
        NeverMistaken x = new NeverMistaken();
        for (int n : new int[] {2, 3, 24}) {
            x.net(0, n);
            for (int k = 1, words = n; k <= 6; k++, words *= n) {
                due("the last of " + words, x.taken(0, k, words - 1, 0), 0);
                due("the last of " + words, x.taken(0, k, 0, words - 1), 0);
                due("one more than " + words, x.taken(0, k, words, 0), RANGE);
                due("one more than " + words, x.taken(0, k, 0, words), RANGE);
                due("word -1", x.taken(0, k, -1, 0), RANGE);
                due("word -1", x.taken(0, k, 0, -1), RANGE);
            }
        }
        for (int far : new int[] {Integer.MIN_VALUE, Integer.MAX_VALUE, 191102976}) {
            due("word " + far, x.taken(0, 6, far, 0), RANGE);
            due("word " + far, x.taken(0, 6, 0, far), RANGE);
        }
    }

    @Sentence(of = 12, says = "the same")
    static void takenOfTheSame() {
        NeverMistaken x = new NeverMistaken();
        due("the one word of one letter", x.taken(0, 6, 0, 0), RANGE);
        due("no other", x.taken(0, 6, 0, 1), RANGE);
        x.ring(0, 24);
        for (int v : new int[] {0, 1, 191102975}) {
            due("word " + v, x.taken(0, 6, v, v), RANGE);
        }
        due("the one beside it", x.taken(0, 6, 191102974, 191102975), 1);
    }
}
