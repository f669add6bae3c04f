/** Promises 4 to 8: net, mistake, ring, told, fault. */
public final class BoundaryOfLines extends Boundary {
    public static void main(String[] args) throws Exception {
        run(BoundaryOfLines.class, 4, 8);
    }

    // ---- net

    @Sentence(of = 4, says = "LINE l is a NET of n LETTERS, none MISTAKEN: n; RANGE.")
    static void netOfNoSuchLine() {
        NeverMistaken x = new NeverMistaken();
        due("line -1", x.net(-1, 2), RANGE);
        due("line 0", x.net(0, 2), 2);
        due("line 7", x.net(7, 2), 2);
        due("line 8", x.net(8, 2), RANGE);
        for (int far : FAR) {
            due("line " + far, x.net(far, 2), RANGE);
        }
    }

    @Sentence(of = 4, says = "LINE l is a NET of n LETTERS, none MISTAKEN: n; RANGE.")
    static void netOfNoSuchLetters() {
        NeverMistaken x = new NeverMistaken();
        due("-1 letters", x.net(0, -1), RANGE);
        due("0 letters", x.net(0, 0), RANGE);
        due("1 letter", x.net(0, 1), 1);
        due("24 letters", x.net(0, 24), 24);
        due("25 letters", x.net(0, 25), RANGE);
        for (int far : FAR) {
            due(far + " letters", x.net(0, far), RANGE);
        }
        due("letter 23", x.about(0, 33), 0);
    }

    @Sentence(of = 4, says = "none MISTAKEN")
    static void netWithoutPairs() {
        NeverMistaken x = new NeverMistaken();
        x.ring(0, 24);
        x.net(0, 24);
        due("over a ring, pairs", x.about(0, 3), 0);
        Check.net(x, 0, 24, 0, 23);
        due("over a net, as many", x.net(0, 24), 24);
        due("pairs", x.about(0, 3), 0);
        due("letter 0", x.about(0, 10), 0);
        due("letter 23", x.about(0, 33), 0);
        Check.tell(x, 0, "a;a;a");
        x.net(0, 3);
        due("over a told one, kind", x.about(0, 1), 0);
        due("pairs", x.about(0, 3), 0);
        due("signs", x.about(0, 4), 0);
    }

    @Sentence(of = 4, says = "RANGE")
    static void netRefusedLeavesTheLine() {
        NeverMistaken x = new NeverMistaken();
        x.ring(3, 5);
        x.row(3, 4, 5, -30);
        x.net(3, 25);
        x.net(3, 0);
        due("letters", x.about(3, 0), 5);
        due("kind", x.about(3, 1), 2);
        due("pairs", x.about(3, 3), 5);
        due("rows", x.row(3, 4, 5, 0), -30);
    }

    // ---- mistake

    @Sentence(of = 5, says = "1 if it was otherwise, else 0")
    static void otherwiseOrNot() {
        NeverMistaken x = new NeverMistaken();
        x.net(0, 2);
        due("off already", x.mistake(0, 0, 1, false), 0);
        due("on", x.mistake(0, 0, 1, true), 1);
        due("on already", x.mistake(0, 0, 1, true), 0);
        due("on already, turned", x.mistake(0, 1, 0, true), 0);
        due("off, turned", x.mistake(0, 1, 0, false), 1);
        due("off already", x.mistake(0, 0, 1, false), 0);
        due("pairs", x.about(0, 3), 0);
    }

    @Sentence(of = 5, says = "RANGE: no such LINE")
    static void mistakeOfNoSuchLine() {
        NeverMistaken x = new NeverMistaken();
        x.net(0, 2);
        x.net(7, 2);
        due("line -1", x.mistake(-1, 0, 1, true), RANGE);
        due("line 0", x.mistake(0, 0, 1, true), 1);
        due("line 7", x.mistake(7, 0, 1, true), 1);
        due("line 8", x.mistake(8, 0, 1, true), RANGE);
        for (int far : FAR) {
            due("line " + far, x.mistake(far, 0, 1, true), RANGE);
        }
    }

    @Sentence(of = 5, says = "RANGE: no such LINE, LETTERS")
    static void mistakeOfNoSuchLetters() {
        NeverMistaken x = new NeverMistaken();
        for (int n : new int[] {1, 2, 5, 24}) {
            x.net(0, n);
            due("letter -1 of " + n, x.mistake(0, -1, 0, true), RANGE);
            due("letter -1 of " + n, x.mistake(0, 0, -1, true), RANGE);
            due("letter " + n, x.mistake(0, n, 0, true), RANGE);
            due("letter " + n, x.mistake(0, 0, n, true), RANGE);
            due("the first and the last of " + n, x.mistake(0, 0, n - 1, true), n == 1 ? RANGE : 1);
            due("the last and the first of " + n, x.mistake(0, n - 1, 0, false), n == 1 ? RANGE : 1);
        }
        for (int far : FAR) {
            due("letter " + far, x.mistake(0, far, 1, true), RANGE);
            due("letter " + far, x.mistake(0, 1, far, true), RANGE);
        }
        due("pairs", x.about(0, 3), 0);
    }

    @Sentence(of = 5, says = "the same")
    static void mistakeOfTheSame() {
        NeverMistaken x = new NeverMistaken();
        x.net(0, 24);
        for (int a : new int[] {0, 1, 23}) {
            due("on, " + a, x.mistake(0, a, a, true), RANGE);
            due("off, " + a, x.mistake(0, a, a, false), RANGE);
            due("near " + a, x.about(0, 10 + a), 0);
        }
        due("one beside it", x.mistake(0, 22, 23, true), 1);
    }

    @Sentence(of = 5, says = "STATE: the LINE is TOLD, or a RING")
    static void mistakeOfATold() {
        NeverMistaken x = new NeverMistaken();
        Check.tell(x, 0, "a;ab;c");
        due("would change", x.mistake(0, 0, 2, true), STATE);
        due("would change", x.mistake(0, 0, 1, false), STATE);
        due("is so already", x.mistake(0, 0, 1, true), STATE);
        due("is so already", x.mistake(0, 0, 2, false), STATE);
        due("pairs", x.about(0, 3), 1);
        x.both(0, 1, 0);
        due("joined it is a net", x.mistake(0, 0, 2, true), 1);
    }

    @Sentence(of = 5, says = "STATE: the LINE is TOLD, or a RING")
    static void mistakeOfARing() {
        NeverMistaken x = new NeverMistaken();
        x.ring(0, 4);
        due("would change", x.mistake(0, 0, 2, true), STATE);
        due("would change", x.mistake(0, 0, 3, false), STATE);
        due("is so already", x.mistake(0, 0, 3, true), STATE);
        due("is so already", x.mistake(0, 1, 3, false), STATE);
        due("pairs", x.about(0, 3), 4);
        x.net(0, 4);
        due("a net again", x.mistake(0, 0, 2, true), 1);
    }

    @Sentence(of = 5, says = "RANGE: no such LINE, LETTERS, the same; STATE")
    static void mistakeRefusedLeavesTheRows() {
        NeverMistaken x = new NeverMistaken();
        x.ring(0, 3);
        x.net(1, 3);
        for (int l = 0; l <= 1; l++) {
            x.row(l, 2, 5, 30);
            x.row(l, -1, 5, -30);
        }
        x.mistake(0, 0, 1, false);
        x.mistake(1, 0, 3, true);
        x.mistake(1, 1, 1, true);
        x.mistake(1, 0, 1, false);
        for (int l = 0; l <= 1; l++) {
            due("row", x.row(l, 2, 5, 30), 30);
            due("handle", x.row(l, -1, 5, -30), -30);
        }
    }

    // ---- ring

    @Sentence(of = 6, says = "LINE l is a RING: n; RANGE.")
    static void ringOfNoSuchLine() {
        NeverMistaken x = new NeverMistaken();
        due("line -1", x.ring(-1, 3), RANGE);
        due("line 0", x.ring(0, 3), 3);
        due("line 7", x.ring(7, 3), 3);
        due("line 8", x.ring(8, 3), RANGE);
        for (int far : FAR) {
            due("line " + far, x.ring(far, 3), RANGE);
        }
    }

    @Sentence(of = 6, says = "LINE l is a RING: n; RANGE.")
    static void ringOfNoSuchLetters() {
        NeverMistaken x = new NeverMistaken();
        for (int n = -3; n <= 2; n++) {
            due(n + " letters", x.ring(0, n), RANGE);
        }
        due("3 letters", x.ring(0, 3), 3);
        due("kind", x.about(0, 1), 2);
        due("24 letters", x.ring(0, 24), 24);
        due("25 letters", x.ring(0, 25), RANGE);
        for (int far : FAR) {
            due(far + " letters", x.ring(0, far), RANGE);
        }
    }

    @Sentence(of = 6, says = "LINE l is a RING: n; RANGE.")
    static void ringRefusedLeavesTheLine() {
        NeverMistaken x = new NeverMistaken();
        Check.net(x, 2, 4, 1, 2);
        x.row(2, 3, 0, 30);
        x.ring(2, 2);
        x.ring(2, 25);
        due("letters", x.about(2, 0), 4);
        due("kind", x.about(2, 1), 0);
        due("pairs", x.about(2, 3), 1);
        due("rows", x.row(2, 3, 0, 0), 30);
    }

    // ---- told

    @Sentence(of = 7, says = "(read, and empty then)")
    static void toldEmptiesTheTape() {
        NeverMistaken x = new NeverMistaken();
        due("told", Check.tell(x, 0, "a;b"), 2);
        due("bytes", x.count(0), 0);
        due("a fault", Check.tell(x, 0, "a;b?c"), NONE);
        due("bytes", x.count(0), 0);
        due("no such line", Check.tell(x, 8, "a;b"), RANGE);
        due("bytes", x.count(0), 0);
        due("the next ones come first", x.feed(0, 0, 0, 0, 0), 20);
    }

    @Sentence(of = 7, says = "how many LETTERS")
    static void toldLetters() {
        NeverMistaken x = new NeverMistaken();
        due("none", Check.tell(x, 0, ""), NONE);
        for (int n = 1; n <= 24; n++) {
            due(n + " letters", Check.tell(x, 0, apart(n)), n);
            due("letters", x.about(0, 0), n);
        }
        due("25 letters", Check.tell(x, 0, alike(25, "a")), NONE);
        due("the 24 stay", x.about(0, 0), 24);
    }

    @Sentence(of = 7, says = "RANGE: no such LINE")
    static void toldOfNoSuchLine() {
        NeverMistaken x = new NeverMistaken();
        due("line -1", Check.tell(x, -1, "a;b"), RANGE);
        due("line 0", Check.tell(x, 0, "a;b"), 2);
        due("line 7", Check.tell(x, 7, "a;b"), 2);
        due("line 8", Check.tell(x, 8, "a;b"), RANGE);
        for (int far : FAR) {
            due("line " + far, Check.tell(x, far, "a;b"), RANGE);
        }
    }

    @Sentence(of = 7, says = "RANGE: no such LINE")
    static void toldRangeIsAheadOfAFault() {
        NeverMistaken x = new NeverMistaken();
        due("a fault, no line", Check.tell(x, 8, "?"), RANGE);
        due("a fault, no line", Check.tell(x, -1, ""), RANGE);
        due("a fault", Check.tell(x, 7, "?"), NONE);
    }

    @Sentence(of = 7, says = "NONE with a FAULT (the LINE stays)")
    static void toldWithAFault() {
        NeverMistaken x = new NeverMistaken();
        Check.tell(x, 0, "ab;bc;x");
        x.row(0, 2, 5, 30);
        x.row(0, -1, 0, -30);
        x.most(0, 1);
        for (String text : new String[] {"", "d;y", "d;;", "d;dd", alike(25, "d")}) {
            due("fault of " + text, Check.tell(x, 0, text), NONE);
        }
        due("letters", x.about(0, 0), 3);
        due("kind", x.about(0, 1), 1);
        due("pairs", x.about(0, 3), 1);
        due("signs", x.about(0, 4), 4);
        due("signs of 0", x.about(0, 40), 3);
        due("rows", x.row(0, 2, 5, 30), 30);
        due("handle", x.row(0, -1, 0, -30), -30);
        due("it is not told anew", Check.read(x, 0, "x"), 1);
    }

    @Sentence(of = 7, says = "NONE with a FAULT (the LINE stays)")
    static void otherKindsStayToo() {
        NeverMistaken x = new NeverMistaken();
        x.ring(0, 5);
        Check.net(x, 1, 2, 0, 1);
        due("fault", Check.tell(x, 0, "a;;"), NONE);
        due("fault", Check.tell(x, 1, "a;;"), NONE);
        due("a ring", x.about(0, 1), 2);
        due("its pairs", x.about(0, 3), 5);
        due("a net", x.about(1, 1), 0);
        due("its pairs", x.about(1, 3), 1);
    }

    // ---- fault

    private static void faultOf(NeverMistaken x, int what, int where) {
        due("what", x.fault(0), what);
        due("where", x.fault(1), where);
    }

    @Sentence(of = 8, says = "Of the latest told() that was not RANGE")
    static void latestThatWasNotRange() {
        NeverMistaken x = new NeverMistaken();
        Check.tell(x, 8, "?");
        faultOf(x, 0, NONE);
        Check.tell(x, 0, "a?");
        faultOf(x, 1, 1);
        Check.tell(x, 8, "a;;");
        Check.tell(x, -1, "a");
        faultOf(x, 1, 1);
        Check.tell(x, 1, "aa");
        faultOf(x, 4, 1);
        Check.tell(x, 2, "a");
        faultOf(x, 0, NONE);
        Check.tell(x, 8, "a;;");
        faultOf(x, 0, NONE);
    }

    @Sentence(of = 8, says = "what 0: its FAULT, 0 without (and ahead of any)")
    static void withoutAFault() {
        NeverMistaken x = new NeverMistaken();
        due("ahead of any", x.fault(0), 0);
        Check.tell(x, 0, "a;b");
        due("without", x.fault(0), 0);
        Check.tell(x, 0, "a;");
        due("with one", x.fault(0), 2);
        Check.tell(x, 0, "a;b");
        due("without again", x.fault(0), 0);
    }

    @Sentence(of = 8, says = "1: its place (NONE)")
    static void placeOfNone() {
        NeverMistaken x = new NeverMistaken();
        due("ahead of any", x.fault(1), NONE);
        Check.tell(x, 0, "?");
        due("place 0", x.fault(1), 0);
        Check.tell(x, 0, "a");
        due("without", x.fault(1), NONE);
    }

    @Sentence(of = 8, says = "NONE for another what")
    static void anotherWhat() {
        NeverMistaken x = new NeverMistaken();
        Check.tell(x, 0, "abc;?");
        due("-1", x.fault(-1), NONE);
        due("0", x.fault(0), 1);
        due("1", x.fault(1), 4);
        due("2", x.fault(2), NONE);
        for (int far : FAR) {
            due("what " + far, x.fault(far), NONE);
        }
    }
}
