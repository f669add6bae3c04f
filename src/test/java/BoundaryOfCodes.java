/** Promises 13 to 17: most, word, ways, heaps, heap. */
public final class BoundaryOfCodes extends Boundary {
    public static void main(String[] args) throws Exception {
        run(BoundaryOfCodes.class, 13, 17);
    }

    private static void words(NeverMistaken x, int... words) {
        for (int i = 0; i < words.length; i++) {
            due("word " + i, x.word(i), words[i]);
        }
        due("no word " + words.length, x.word(words.length), NONE);
    }

    private static void row(NeverMistaken x, int... row) {
        for (int a = 0; a < row.length; a++) {
            due("heap of " + a, x.heap(a), row[a]);
        }
        due("no letter " + row.length, x.heap(row.length), NONE);
    }

    // ---- most

    @Sentence(of = 13, says = "The LARGEST of a LINE and length k: how many WORDS")
    static void fewestAndMostWords() {
        NeverMistaken x = new NeverMistaken();
        for (int k = 1; k <= 6; k++) {
            due("one letter, length " + k, x.most(0, k), 1);
            words(x, 0);
        }
        Check.tell(x, 0, alike(24, "x"));
        due("all mistaken", x.most(0, 1), 1);
        words(x, 0);
        x.net(0, 24);
        due("none mistaken", x.most(0, 1), 24);
        due("the last word", x.word(23), 23);
        x.net(0, 2);
        due("64 words", x.most(0, 6), 64);
        for (int i = 0; i < 64; i++) {
            due("word " + i, x.word(i), i);
        }
    }

    @Sentence(of = 13, says = "RANGE: no such")
    static void mostOfNoSuchLine() {
        NeverMistaken x = new NeverMistaken();
        due("line -1", x.most(-1, 1), RANGE);
        due("line 0", x.most(0, 1), 1);
        due("line 7", x.most(7, 1), 1);
        due("line 8", x.most(8, 1), RANGE);
        for (int far : FAR) {
            due("line " + far, x.most(far, 1), RANGE);
        }
    }

    @Sentence(of = 13, says = "RANGE: no such")
    static void mostOfNoSuchLength() {
        NeverMistaken x = new NeverMistaken();
        due("length -1", x.most(0, -1), RANGE);
        due("length 0", x.most(0, 0), RANGE);
        due("length 1", x.most(0, 1), 1);
        due("length 6", x.most(0, 6), 1);
        due("length 7", x.most(0, 7), RANGE);
        x.net(0, 24);
        due("length 6 of 24 letters", x.most(0, 6), FULL);
        due("length 7 of 24 letters", x.most(0, 7), RANGE);
        due("length 0 of 24 letters", x.most(0, 0), RANGE);
        for (int far : FAR) {
            due("length " + far, x.most(0, far), RANGE);
        }
    }

    @Sentence(of = 13, says = "FULL: more than 64 WORDS in all")
    static void moreThan64Words() {
        for (int n = 1; n <= 24; n++) {
            NeverMistaken x = new NeverMistaken();
            x.net(0, n);
            long words = 1;
            for (int k = 1; k <= 6; k++) {
                words *= n;
                due(n + " letters, length " + k, x.most(0, k), words > 64 ? FULL : words);
            }
        }
    }

    @Sentence(of = 13, says = "FULL: more than 64 WORDS in all")
    static void mostRefusedTellsNothing() {
        NeverMistaken x = new NeverMistaken();
        x.ring(3, 5);
        x.most(3, 2);
        due("125 words", x.most(3, 3), FULL);
        due("no length 7", x.most(3, 7), RANGE);
        due("no line 8", x.most(8, 1), RANGE);
        words(x, 0, 7, 14, 16, 23);
        due("words", x.count(1), 5);
        due("length", x.count(2), 2);
        due("line", x.count(3), 3);
    }

    // ---- word

    @Sentence(of = 14, says = "WORD i of the latest most()")
    static void firstAndLastWord() {
        NeverMistaken x = new NeverMistaken();
        x.net(0, 8);
        x.most(0, 2);
        due("word -1", x.word(-1), NONE);
        due("word 0", x.word(0), 0);
        due("word 63", x.word(63), 63);
        due("word 64", x.word(64), NONE);
        for (int far : FAR) {
            due("word " + far, x.word(far), NONE);
        }
        x.most(1, 1);
        due("a shorter one then", x.word(0), 0);
        due("none of the longer one", x.word(1), NONE);
    }

    @Sentence(of = 14, says = "that told a number; NONE")
    static void noNumberTold() {
        NeverMistaken x = new NeverMistaken();
        due("ahead of any", x.word(0), NONE);
        x.net(1, 9);
        x.most(1, 2);
        x.most(8, 1);
        x.most(0, 0);
        due("FULL and RANGE tell none", x.word(0), NONE);
        x.most(1, 1);
        due("a number", x.word(8), 8);
        due("behind it", x.word(9), NONE);
    }

    @Sentence(of = 14, says = "the latest most() that told a number")
    static void noOtherCallTellsWords() {
        NeverMistaken x = new NeverMistaken();
        x.net(0, 3);
        x.most(0, 1);
        x.ring(0, 5);
        x.ways(0, 1);
        x.heaps(0);
        x.best(0);
        x.met(0);
        Check.tell(x, 0, "a;b;c;d");
        words(x, 0, 1, 2);
    }

    // ---- ways

    @Sentence(of = 15, says = "How many CODES of a LINE and length k are as large as the LARGEST")
    static void fewestAndMostWays() {
        NeverMistaken x = new NeverMistaken();
        for (int k = 1; k <= 6; k++) {
            due("one letter, length " + k, x.ways(0, k), 1);
        }
        x.net(0, 24);
        due("none mistaken", x.ways(0, 1), 1);
        Check.tell(x, 0, alike(24, "x"));
        due("all mistaken", x.ways(0, 1), 24);
        Check.tell(x, 0, "a;a;a;b;b;b;c;c;c;d;d;d;e;e;e;f;f;f;g;g;g;h;h;h");
        due("threes", x.ways(0, 1), 6561);
        due("smaller codes are not counted", x.ways(1, 1), 1);
    }

    @Sentence(of = 15, says = "RANGE; FULL")
    static void waysOfNoSuch() {
        NeverMistaken x = new NeverMistaken();
        due("line -1", x.ways(-1, 1), RANGE);
        due("line 0", x.ways(0, 1), 1);
        due("line 7", x.ways(7, 1), 1);
        due("line 8", x.ways(8, 1), RANGE);
        due("length -1", x.ways(0, -1), RANGE);
        due("length 0", x.ways(0, 0), RANGE);
        due("length 6", x.ways(0, 6), 1);
        due("length 7", x.ways(0, 7), RANGE);
        x.net(0, 24);
        due("length 7 of 24 letters", x.ways(0, 7), RANGE);
        for (int far : FAR) {
            due("line " + far, x.ways(far, 1), RANGE);
            due("length " + far, x.ways(0, far), RANGE);
        }
    }

    @Sentence(of = 15, says = "FULL: more than 24 WORDS in all")
    static void moreThan24Words() {
        for (int n = 1; n <= 24; n++) {
            NeverMistaken x = new NeverMistaken();
            x.net(0, n);
            long words = 1;
            for (int k = 1; k <= 6; k++) {
                words *= n;
                due(n + " letters, length " + k, x.ways(0, k), words > 24 ? FULL : 1);
            }
        }
    }

    // ---- heaps

    @Sentence(of = 16, says = "The fewest HEAPS of a LINE")
    static void oneHeapAndAsManyAsLetters() {
        NeverMistaken x = new NeverMistaken();
        due("one letter", x.heaps(0), 1);
        row(x, 0);
        x.ring(0, 3);
        due("a ring of 3", x.heaps(0), 1);
        row(x, 0, 0, 0);
        x.net(0, 24);
        due("none mistaken", x.heaps(0), 24);
        for (int a = 0; a < 24; a++) {
            due("heap of " + a, x.heap(a), a);
        }
        Check.tell(x, 0, alike(24, "x"));
        due("all mistaken", x.heaps(0), 1);
        for (int a = 0; a < 24; a++) {
            due("heap of " + a, x.heap(a), 0);
        }
    }

    @Sentence(of = 16, says = "The fewest HEAPS of a LINE")
    static void oneMoreThanTheLargestCode() {
        NeverMistaken x = new NeverMistaken();
        x.ring(0, 23);
        due("an odd ring", x.heaps(0), 12);
        due("its code", x.most(0, 1), 11);
        due("the last letter alone", x.heap(22), 11);
        x.ring(0, 24);
        due("an even ring", x.heaps(0), 12);
        due("its code", x.most(0, 1), 12);
        due("the last letter", x.heap(23), 11);
        due("the one beside it", x.heap(22), 11);
    }

    @Sentence(of = 16, says = "RANGE")
    static void heapsOfNoSuchLine() {
        NeverMistaken x = new NeverMistaken();
        due("line -1", x.heaps(-1), RANGE);
        due("line 0", x.heaps(0), 1);
        due("line 7", x.heaps(7), 1);
        due("line 8", x.heaps(8), RANGE);
        for (int far : FAR) {
            due("line " + far, x.heaps(far), RANGE);
        }
    }

    // ---- heap

    @Sentence(of = 17, says = "In which heap LETTER a is")
    static void heapOfTheFirstAndLast() {
        NeverMistaken x = new NeverMistaken();
        x.net(0, 24);
        x.heaps(0);
        due("letter -1", x.heap(-1), NONE);
        due("letter 0", x.heap(0), 0);
        due("letter 23", x.heap(23), 23);
        due("letter 24", x.heap(24), NONE);
        for (int far : FAR) {
            due("letter " + far, x.heap(far), NONE);
        }
    }

    @Sentence(of = 17, says = "by the latest heaps() that was not RANGE")
    static void heapByTheLatest() {
        NeverMistaken x = new NeverMistaken();
        x.net(0, 3);
        x.ring(1, 5);
        x.heaps(0);
        x.heaps(8);
        x.heaps(-1);
        row(x, 0, 1, 2);
        x.heaps(1);
        row(x, 0, 0, 1, 1, 2);
        x.heaps(0);
        row(x, 0, 1, 2);
    }

    @Sentence(of = 17, says = "by the latest heaps() that was not RANGE")
    static void noOtherCallPutsInHeaps() {
        NeverMistaken x = new NeverMistaken();
        x.ring(0, 5);
        x.heaps(0);
        x.met(1);
        x.best(1);
        x.most(1, 1);
        x.net(0, 2);
        row(x, 0, 0, 1, 1, 2);
    }

    @Sentence(of = 17, says = "NONE: no such LETTER")
    static void noSuchLetter() {
        NeverMistaken x = new NeverMistaken();
        for (int n = 1; n <= 24; n++) {
            x.net(0, n);
            x.heaps(0);
            due("the last of " + n, x.heap(n - 1), n - 1);
            due("one more than " + n, x.heap(n), NONE);
        }
    }

    @Sentence(of = 17, says = "or none was told")
    static void noHeapTold() {
        NeverMistaken x = new NeverMistaken();
        due("ahead of any", x.heap(0), NONE);
        x.heaps(8);
        due("RANGE tells none", x.heap(0), NONE);
        x.met(0);
        due("met() tells none", x.heap(0), NONE);
        x.heaps(0);
        due("told", x.heap(0), 0);
    }
}
