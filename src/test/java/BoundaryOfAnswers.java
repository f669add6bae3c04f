/** Promises 24 to 28: came, sent, list, listed, count. */
public final class BoundaryOfAnswers extends Boundary {
    public static void main(String[] args) throws Exception {
        run(BoundaryOfAnswers.class, 24, 28);
    }

    /** Line 0 is told, and a code of it with words of this length is the latest. */
    private static NeverMistaken coded(String text, int length) {
        NeverMistaken x = new NeverMistaken();
        Check.tell(x, 0, text);
        x.most(0, length);
        return x;
    }

    // ---- came

    @Sentence(of = 24, says = "THE TAPE (read)")
    static void cameEmptiesTheTape() {
        NeverMistaken x = coded("a;b", 1);
        int[] answers = {1, 0, NONE, NONE, RANGE, STATE};
        String[] texts = {"a", "x", "?", "", "a", "a"};
        int[] lines = {0, 0, 0, 0, 8, 1};
        for (int i = 0; i < answers.length; i++) {
            due("came", Check.read(x, lines[i], texts[i]), answers[i]);
            due("bytes", x.count(0), 0);
            due("the next ones come first", x.feed(0, 0, 0, 0, 0), 20);
        }
    }

    @Sentence(of = 24, says = "a row of SIGNS that came (blanks aside)")
    static void blanksAside() {
        NeverMistaken x = coded("a;b", 2);
        due("none", Check.read(x, 0, "ab"), 1);
        due("ahead", Check.read(x, 0, " \nab"), 1);
        due("between", Check.read(x, 0, "a \n b"), 1);
        due("behind", Check.read(x, 0, "ab\n "), 1);
        due("up to 600 bytes", Check.read(x, 0, filled("a", 599) + "b"), 1);
        due("which", x.sent(), 1);
        due("a blank is no sign", Check.read(x, 0, "a "), NONE);
        for (char c : new char[] {0, 9, 11, 13, 31, 33}) {
            due("no blank " + (int) c, Check.read(x, 0, "ab" + c), NONE);
        }
    }

    @Sentence(of = 24, says = "how many of the WORDS of the latest most() could have made it")
    static void noneOrOne() {
        NeverMistaken x = coded("ab;bc;cd;da", 1);
        String[] made = {"a", "b", "c", "d"};
        int[] sent = {0, 0, 2, 2};
        for (int i = 0; i < made.length; i++) {
            due("of " + made[i], Check.read(x, 0, made[i]), 1);
            due("which", x.sent(), sent[i]);
        }
        due("of e", Check.read(x, 0, "e"), 0);
        due("of x", Check.read(x, 0, "x"), 0);
    }

    @Sentence(of = 24, says = "RANGE: no such LINE")
    static void cameOfNoSuchLine() {
        NeverMistaken x = new NeverMistaken();
        for (int l : new int[] {0, 7}) {
            Check.tell(x, l, "a");
            x.most(l, 1);
            due("line " + l, Check.read(x, l, "a"), 1);
            due("line -1", Check.read(x, -1, "a"), RANGE);
            due("line 8", Check.read(x, 8, "a"), RANGE);
        }
        for (int far : FAR) {
            due("line " + far, Check.read(x, far, "a"), RANGE);
        }
    }

    @Sentence(of = 24, says = "STATE: it is not TOLD")
    static void cameOfANet() {
        NeverMistaken x = new NeverMistaken();
        x.most(0, 1);
        due("a net", Check.read(x, 0, "a"), STATE);
        x.ring(0, 3);
        x.most(0, 1);
        due("a ring", Check.read(x, 0, "a"), STATE);
        Check.tell(x, 0, "a;b");
        x.most(0, 1);
        due("a told one", Check.read(x, 0, "a"), 1);
        x.both(0, 1, 0);
        x.most(0, 1);
        due("a joined one", Check.read(x, 0, "a"), STATE);
    }

    @Sentence(of = 24, says = "or the latest most() that told a number was of another LINE")
    static void cameOfAnotherLine() {
        NeverMistaken x = coded("a;b", 1);
        Check.tell(x, 1, "a;b");
        due("the latest is of line 0", Check.read(x, 1, "a"), STATE);
        due("line 0", Check.read(x, 0, "a"), 1);
        x.most(1, 7);
        x.most(8, 1);
        due("RANGE tells no number", Check.read(x, 0, "a"), 1);
        Check.tell(x, 1, apart(9));
        x.most(1, 2);
        due("FULL tells no number", Check.read(x, 0, "a"), 1);
        x.most(1, 1);
        due("then it is of line 1", Check.read(x, 0, "a"), STATE);
        due("line 1", Check.read(x, 1, "i"), 1);
    }

    @Sentence(of = 24, says = "or it has been told anew since")
    static void cameOfALineToldAnew() {
        NeverMistaken x = coded("a;b", 1);
        Check.tell(x, 1, "a;b");
        due("another one was told", Check.read(x, 0, "a"), 1);
        Check.tell(x, 0, "a;;");
        due("a fault tells nothing", Check.read(x, 0, "a"), 1);
        Check.tell(x, 0, "a;b");
        due("told anew, alike", Check.read(x, 0, "a"), STATE);
        x.most(0, 1);
        due("a code since", Check.read(x, 0, "a"), 1);
        x.net(0, 2);
        Check.tell(x, 0, "a;b");
        due("a net between", Check.read(x, 0, "a"), STATE);
    }

    @Sentence(of = 24, says = "STATE: it is not TOLD, or the latest most()")
    static void cameAheadOfAnyCode() {
        NeverMistaken x = new NeverMistaken();
        for (int l = 0; l < 8; l++) {
            Check.tell(x, l, "a");
            due("line " + l, Check.read(x, l, "a"), STATE);
        }
    }

    @Sentence(of = 24, says = "NONE: another byte")
    static void cameWithAnotherByte() {
        NeverMistaken x = coded("a;x", 1);
        due("the byte ahead of a", Check.read(x, 0, "`"), NONE);
        due("a", Check.read(x, 0, "a"), 1);
        due("x", Check.read(x, 0, "x"), 1);
        due("the byte behind x", Check.read(x, 0, "y"), NONE);
        for (String other : new String[] {"a;", ";a", "aA", "\0a", "a" + (char) 225, "a" + (char) 255, (char) 128 + "a"}) {
            due("another beside it", Check.read(x, 0, other), NONE);
        }
        due("another as the 600th byte", Check.read(x, 0, filled("a", 599) + "y"), NONE);
    }

    @Sentence(of = 24, says = "not as many SIGNS as the WORDS have LETTERS")
    static void cameWithOtherLengths() {
        for (int k = 1; k <= 6; k++) {
            NeverMistaken x = coded("a;b", k);
            for (int signs = 0; signs <= 8; signs++) {
                due(signs + " signs for length " + k, Check.read(x, 0, "bbbbbbbb".substring(0, signs)), signs == k ? 1 : NONE);
            }
            due("600 signs", Check.read(x, 0, filled("", 600).replaceAll("\\s", "b")), NONE);
        }
    }

    // ---- sent

    @Sentence(of = 25, says = "The first of these")
    static void firstAndLastWordSent() {
        NeverMistaken x = coded("a;b", 6);
        Check.read(x, 0, "aaaaaa");
        due("word 0", x.sent(), 0);
        Check.read(x, 0, "baaaaa");
        due("the first sign is highest", x.sent(), 32);
        Check.read(x, 0, "aaaaab");
        due("the last is lowest", x.sent(), 1);
        Check.read(x, 0, "bbbbbb");
        due("word 63", x.sent(), 63);
    }

    @Sentence(of = 25, says = "by the latest came() that told a number above 0")
    static void noNumberAbove0() {
        NeverMistaken x = coded("a;b", 1);
        due("could have made it", Check.read(x, 0, "b"), 1);
        due("0", Check.read(x, 0, "c"), 0);
        due("after 0", x.sent(), 1);
        due("another byte", Check.read(x, 0, "?"), NONE);
        due("after NONE", x.sent(), 1);
        due("no such line", Check.read(x, 8, "a"), RANGE);
        due("after RANGE", x.sent(), 1);
        due("not told", Check.read(x, 1, "a"), STATE);
        due("after STATE", x.sent(), 1);
        x.most(1, 1);
        x.net(0, 1);
        due("after a most() and a net()", x.sent(), 1);
        Check.tell(x, 1, "c");
        x.most(1, 1);
        due("another", Check.read(x, 1, "c"), 1);
        due("the latest", x.sent(), 0);
    }

    @Sentence(of = 25, says = "NONE")
    static void nothingSent() {
        NeverMistaken x = new NeverMistaken();
        due("ahead of any", x.sent(), NONE);
        Check.tell(x, 0, "a");
        Check.read(x, 0, "a");
        due("after STATE", x.sent(), NONE);
        x.most(0, 1);
        due("0", Check.read(x, 0, "b"), 0);
        due("after 0", x.sent(), NONE);
        due("1", Check.read(x, 0, "a"), 1);
        due("after 1", x.sent(), 0);
    }

    // ---- list

    @Sentence(of = 26, says = "The greatest heap for LISTS of l (1 .. 24)")
    static void noSuchList() {
        NeverMistaken x = new NeverMistaken();
        Check.tell(x, 0, alike(16, "a"));
        due("-1", x.list(0, -1), RANGE);
        due("0", x.list(0, 0), RANGE);
        for (int l = 1; l <= 24; l++) {
            due("" + l, x.list(0, l), Math.min(l, 16));
            due("the set", x.listed(), (1 << Math.min(l, 16)) - 1);
        }
        due("25", x.list(0, 25), RANGE);
        for (int far : FAR) {
            due("" + far, x.list(0, far), RANGE);
        }
    }

    @Sentence(of = 26, says = "how many LETTERS")
    static void oneAndAllLetters() {
        NeverMistaken x = new NeverMistaken();
        Check.tell(x, 0, "x");
        due("one letter", x.list(0, 1), 1);
        due("the set", x.listed(), 1);
        due("of 24", x.list(0, 24), 1);
        Check.tell(x, 0, apart(16));
        due("16 apart", x.list(0, 1), 16);
        due("the set", x.listed(), 65535);
    }

    @Sentence(of = 26, says = "RANGE: no such LINE, l")
    static void listOfNoSuchLine() {
        NeverMistaken x = new NeverMistaken();
        Check.tell(x, 0, "a;a");
        Check.tell(x, 7, "a;b");
        due("line -1", x.list(-1, 1), RANGE);
        due("line 0", x.list(0, 1), 1);
        due("line 7", x.list(7, 1), 2);
        due("line 8", x.list(8, 1), RANGE);
        for (int far : FAR) {
            due("line " + far, x.list(far, 1), RANGE);
        }
    }

    @Sentence(of = 26, says = "STATE: it is not TOLD")
    static void listOfANet() {
        NeverMistaken x = new NeverMistaken();
        due("a net", x.list(0, 1), STATE);
        due("a net, l 24", x.list(0, 24), STATE);
        due("a net, no such l", x.list(0, 25), RANGE);
        due("a net, no such l", x.list(0, 0), RANGE);
        x.ring(0, 3);
        due("a ring", x.list(0, 1), STATE);
        x.ring(0, 24);
        due("a long ring", x.list(0, 1), STATE);
        Check.tell(x, 0, "a;b");
        due("told", x.list(0, 1), 2);
        x.either(0, 0, 0);
        due("joined", x.list(0, 1), STATE);
    }

    @Sentence(of = 26, says = "FULL: more than 16 LETTERS")
    static void moreThan16Letters() {
        NeverMistaken x = new NeverMistaken();
        for (int n = 15; n <= 24; n++) {
            Check.tell(x, 0, apart(n));
            due(n + " letters", x.list(0, 1), n > 16 ? FULL : n);
            due(n + " letters, l 24", x.list(0, 24), n > 16 ? FULL : n);
            due(n + " letters, no such l", x.list(0, 25), RANGE);
        }
    }

    // ---- listed

    @Sentence(of = 27, says = "The set told by the latest list() that told a number")
    static void listedByTheLatest() {
        NeverMistaken x = new NeverMistaken();
        Check.tell(x, 0, "a;a;b");
        Check.tell(x, 1, apart(17));
        x.list(0, 1);
        due("told", x.listed(), 5);
        x.list(8, 1);
        x.list(0, 0);
        due("after RANGE", x.listed(), 5);
        x.list(2, 1);
        due("after STATE", x.listed(), 5);
        x.list(1, 1);
        due("after FULL", x.listed(), 5);
        x.net(0, 1);
        due("the line is another", x.listed(), 5);
        Check.tell(x, 0, "a;a;b");
        x.list(0, 2);
        due("the latest", x.listed(), 7);
    }

    @Sentence(of = 27, says = "NONE: none was")
    static void nothingListed() {
        NeverMistaken x = new NeverMistaken();
        due("ahead of any", x.listed(), NONE);
        x.list(8, 1);
        due("after RANGE", x.listed(), NONE);
        x.list(0, 1);
        due("after STATE", x.listed(), NONE);
        Check.tell(x, 0, apart(17));
        x.list(0, 1);
        due("after FULL", x.listed(), NONE);
        Check.tell(x, 0, "a");
        x.list(0, 1);
        due("told", x.listed(), 1);
    }

    // ---- count

    @Sentence(of = 28, says = "What 0: bytes of THE TAPE")
    static void bytesOfTheTape() {
        NeverMistaken x = new NeverMistaken();
        due("none", x.count(0), 0);
        for (int i = 1; i <= 30; i++) {
            x.feed(0, 0, 0, 0, 0);
            due("feed " + i, x.count(0), 20 * i);
        }
        x.feed(0, 0, 0, 0, 0);
        due("full", x.count(0), 600);
        x.end(1);
        due("one", x.count(0), 1);
        x.told(0);
        due("told", x.count(0), 0);
    }

    @Sentence(of = 28, says = "1: WORDS of the latest most() that told a number, 2: their length, 3: its LINE")
    static void ofTheLatestCode() {
        NeverMistaken x = new NeverMistaken();
        int[][] codes = {{0, 1, 1, 1}, {7, 2, 6, 64}, {0, 1, 6, 1}, {7, 8, 2, 64}, {3, 24, 1, 24}};
        for (int[] code : codes) {
            x.net(code[0], code[1]);
            x.most(code[0], code[2]);
            x.most(8, 1);
            x.most(code[0], 7);
            due("words", x.count(1), code[3]);
            due("length", x.count(2), code[2]);
            due("line", x.count(3), code[0]);
        }
        x.most(3, 2);
        x.net(3, 1);
        x.best(7);
        x.ways(0, 1);
        due("words", x.count(1), 24);
        due("length", x.count(2), 1);
        due("line", x.count(3), 3);
    }

    @Sentence(of = 28, says = "(1 .. 3 NONE: none was.)")
    static void noCodeYet() {
        NeverMistaken x = new NeverMistaken();
        x.net(1, 9);
        x.most(1, 2);
        x.most(8, 1);
        x.ways(0, 1);
        x.best(0);
        for (int what = 1; what <= 3; what++) {
            due("what " + what, x.count(what), NONE);
        }
        due("what 0", x.count(0), 0);
        x.most(0, 1);
        due("what 1", x.count(1), 1);
        due("what 2", x.count(2), 1);
        due("what 3", x.count(3), 0);
    }

    @Sentence(of = 28, says = "NONE for others")
    static void countOfOthers() {
        NeverMistaken x = new NeverMistaken();
        x.most(0, 1);
        x.feed(0, 0, 0, 0, 0);
        due("-1", x.count(-1), NONE);
        due("0", x.count(0), 20);
        due("3", x.count(3), 0);
        due("4", x.count(4), NONE);
        for (int far : FAR) {
            due("" + far, x.count(far), NONE);
        }
    }
}
