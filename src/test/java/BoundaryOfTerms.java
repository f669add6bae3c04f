/** What stands ahead of promise 1: the limits and the edges that the terms name. */
public final class BoundaryOfTerms extends Boundary {
    public static void main(String[] args) throws Exception {
        run(BoundaryOfTerms.class, 0, 0);
    }

    private static void faultOf(String text, int what, int where) {
        NeverMistaken x = new NeverMistaken();
        due("told with a fault", Check.tell(x, 0, text), NONE);
        due("what", x.fault(0), what);
        due("where", x.fault(1), where);
        due("the line stays", x.about(0, 1), 0);
    }

    private static void told(String text, int letters) {
        NeverMistaken x = new NeverMistaken();
        due("told without", Check.tell(x, 0, text), letters);
        due("what", x.fault(0), 0);
        due("where", x.fault(1), NONE);
    }

    // ---- lines

    @Sentence(of = 0, says = "An object is used for at most 512 calls after it has been made")
    static void the512thCall() {
        NeverMistaken x = new NeverMistaken();
        for (int call = 1; call <= 512; call++) {
            due("call " + call, x.row(0, 0, 5, call % 30), call == 1 ? 0 : (call - 1) % 30);
        }
        NeverMistaken y = new NeverMistaken();
        for (int call = 1; call <= 509; call += 4) {
            due("call " + call, y.feed(0x613b6220, 0x20202020, 0x20202020, 0x20202020, 0x20202020), 20);
            due("call " + (call + 1), y.told(0), 2);
            due("call " + (call + 2), y.most(0, 6), 64);
            due("call " + (call + 3), y.word(63), 63);
        }
    }

    @Sentence(of = 0, says = "An object is used for at most 512 calls after it has been made")
    static void twoObjectsShareNothing() {
        NeverMistaken x = new NeverMistaken();
        NeverMistaken y = new NeverMistaken();
        Check.tell(x, 0, "a;b;?");
        Check.tell(x, 0, "a;b");
        x.most(0, 1);
        x.heaps(0);
        x.list(0, 1);
        Check.read(x, 0, "b");
        x.feed(0, 0, 0, 0, 0);
        due("letters", y.about(0, 0), 1);
        due("tape", y.count(0), 0);
        due("code", y.count(1), NONE);
        due("heap", y.heap(0), NONE);
        due("sent", y.sent(), NONE);
        due("listed", y.listed(), NONE);
    }

    @Sentence(of = 0, says = "LINES 0 .. 7")
    static void linesShareNothing() {
        NeverMistaken x = new NeverMistaken();
        for (int l = 0; l < 8; l++) {
            x.net(l, l + 2);
            x.mistake(l, 0, l + 1, true);
            x.row(l, l + 1, 5, l - 4);
            x.row(l, -1, 0, l + 1);
        }
        for (int l = 0; l < 8; l++) {
            due("letters", x.about(l, 0), l + 2);
            due("pairs", x.about(l, 3), 1);
            due("near", x.about(l, 10), 1 << l + 1);
            due("row", x.row(l, l + 1, 5, 0), l - 4);
            due("handle", x.row(l, -1, 0, 0), l + 1);
        }
    }

    @Sentence(of = 0, says = "of which some pairs are MISTAKEN")
    static void fewerLettersAndMoreAgain() {
        NeverMistaken x = new NeverMistaken();
        Check.tell(x, 0, alike(24, "x"));
        x.net(0, 1);
        x.net(0, 24);
        due("no pair is left over", x.about(0, 3), 0);
        due("letter 23", x.about(0, 33), 0);
        due("largest", x.most(0, 1), 24);
        due("heaps", x.heaps(0), 24);
    }

    @Sentence(of = 0, says = "A TOLD line has SIGNS a .. x")
    static void firstAndLastSign() {
        faultOf("`", 1, 0);
        told("a", 1);
        told("x", 1);
        faultOf("y", 1, 0);
        faultOf("A", 1, 0);
        faultOf("X", 1, 0);
    }

    @Sentence(of = 0, says = "of each LETTER those that may come out for it (one or more)")
    static void oneAndAllSigns() {
        faultOf("", 2, 0);
        told("q", 1);
        told("abcdefghijklmnopqrstuvwx", 1);
        told("xwvutsrqponmlkjihgfedcba", 1);
        faultOf("abcdefghijklmnopqrstuvwxa", 4, 24);
    }

    @Sentence(of = 0, says = "two LETTERS are MISTAKEN if some SIGN may come of both")
    static void oneSignShared() {
        NeverMistaken x = new NeverMistaken();
        Check.tell(x, 0, "abc;def");
        due("none", x.about(0, 3), 0);
        Check.tell(x, 0, "abc;cde");
        due("the last of one and the first of the other", x.about(0, 3), 1);
        Check.tell(x, 0, "ab;cda");
        due("a", x.about(0, 3), 1);
        Check.tell(x, 0, "xb;cdx");
        due("x", x.about(0, 3), 1);
        Check.tell(x, 0, "ab;ba");
        due("all", x.about(0, 3), 1);
    }

    @Sentence(of = 0, says = "A RING of n (3 .. 24): each LETTER is MISTAKEN with the two beside it (0 with n - 1)")
    static void aroundTheRing() {
        NeverMistaken x = new NeverMistaken();
        for (int n = 3; n <= 24; n++) {
            x.ring(0, n);
            due("near 0 of " + n, x.about(0, 10), 1 << 1 | 1 << n - 1);
            due("near 1 of " + n, x.about(0, 11), 1 << 0 | 1 << 2);
            due("near " + (n - 1), x.about(0, 10 + n - 1), 1 << 0 | 1 << n - 2);
            due("pairs", x.about(0, 3), n);
        }
    }

    @Sentence(of = 0, says = "two are MISTAKEN if in each place they are the same, or MISTAKEN there")
    static void bothInEachPlace() {
        NeverMistaken x = new NeverMistaken();
        Check.net(x, 0, 2, 0, 1);
        x.net(1, 2);
        x.both(0, 1, 2);
        // 00 01 10 11: mistaken in the first place, apart in the second.
        due("near 00", x.about(2, 10), 1 << 2);
        due("near 01", x.about(2, 11), 1 << 3);
        x.both(1, 0, 2);
        due("near 00, turned", x.about(2, 10), 1 << 1);
        due("near 11, turned", x.about(2, 13), 1 << 2);
        x.both(0, 0, 2);
        due("mistaken in both", x.about(2, 10), 0b1110);
        x.both(1, 1, 2);
        due("mistaken in none", x.about(2, 3), 0);
    }

    @Sentence(of = 0, says = "(of the first times how many the second has, and of the second)")
    static void numbersOfPairs() {
        NeverMistaken x = new NeverMistaken();
        // Letters 1 and 2 of the first, 2 and 4 of the second: 1, 2 is 7 and 2, 4 is 14.
        Check.net(x, 0, 3, 1, 2);
        Check.net(x, 1, 5, 2, 4);
        x.both(0, 1, 2);
        due("letters", x.about(2, 0), 15);
        due("near 7", x.about(2, 17), 1 << 9 | 1 << 12 | 1 << 14);
        due("near 14", x.about(2, 24), 1 << 7 | 1 << 9 | 1 << 12);
        due("near 0", x.about(2, 10), 0);
    }

    @Sentence(of = 0, says = "MISTAKEN as they were there, none of the one with one of the other")
    static void noneOfTheOther() {
        NeverMistaken x = new NeverMistaken();
        Check.tell(x, 0, alike(12, "a"));
        x.either(0, 0, 1);
        due("pairs", x.about(1, 3), 132);
        due("near the last of the first", x.about(1, 21), (1 << 11) - 1);
        due("near the first of the second", x.about(1, 22), (1 << 24) - (1 << 13));
        due("near the last", x.about(1, 33), (1 << 23) - (1 << 12));
    }

    @Sentence(of = 0, says = "(Both are NETS.)")
    static void joinedOnesAreNets() {
        NeverMistaken x = new NeverMistaken();
        x.ring(0, 3);
        Check.tell(x, 1, "a;b");
        x.both(0, 0, 2);
        due("of rings", x.about(2, 1), 0);
        x.both(1, 1, 2);
        due("of told ones", x.about(2, 1), 0);
        due("signs", x.about(2, 40), NONE);
        x.either(1, 0, 1);
        due("in place of a told one", x.about(1, 1), 0);
        due("signs", x.about(1, 40), NONE);
        due("signs in all", x.about(1, 4), 0);
        x.either(0, 1, 0);
        due("in place of a ring", x.about(0, 1), 0);
    }

    // ---- the tape's text

    @Sentence(of = 0, says = "THE TAPE has at most 600 bytes.")
    static void textOf600Bytes() {
        told(filled(apart(24), 600), 24);
        told(filled("", 600 - 47) + apart(24), 24);
        NeverMistaken x = new NeverMistaken();
        Check.tape(x, filled("a", 600));
        due("600", x.count(0), 600);
        due("no more", x.feed(0, 0, 0, 0, 0), FULL);
        due("not 601", x.end(601), NONE);
    }

    @Sentence(of = 0, says = "LETTERS with ; between, each of one or more SIGNS")
    static void lettersWithSemicolonsBetween() {
        told("a", 1);
        faultOf(";a", 2, 0);
        faultOf("a;", 2, 2);
        told("a;b", 2);
        faultOf("a;;b", 2, 2);
        faultOf(";", 2, 0);
        faultOf("a:b", 1, 1);
        faultOf("a<b", 1, 1);
    }

    @Sentence(of = 0, says = "blanks (32, 10) may stand anywhere")
    static void blanksAnywhere() {
        told(" a", 1);
        told("\na", 1);
        told("a ", 1);
        told("a\n", 1);
        told("a b", 1);
        told("a \n ; \n b", 2);
        faultOf(" ", 2, 1);
        faultOf("\n\n", 2, 2);
        faultOf("a; \n", 2, 4);
        for (char c : new char[] {0, 9, 11, 12, 13, 31, 33, 127, 128, 138, 160, 255}) {
            faultOf("ab" + c + "c", 1, 2);
        }
    }

    @Sentence(of = 0, says = "1 one that is no SIGN, blank or ; (at it)")
    static void firstStrangeByte() {
        for (int b = 0; b < 256; b++) {
            boolean fits = b == 32 || b == 10 || b >= 'b' && b <= 'x';
            if (fits) {
                told("a" + (char) b, 1);
            } else if (b == 'a') {
                faultOf("aa", 4, 1);
            } else {
                faultOf("a" + (char) b, b == ';' ? 2 : 1, b == ';' ? 2 : 1);
            }
        }
        faultOf("?", 1, 0);
        faultOf("a;?;?", 1, 2);
        faultOf(filled("a", 599) + "?", 1, 599);
    }

    @Sentence(of = 0, says = "2 a LETTER without SIGNS (at its ;, or the text's length)")
    static void letterWithoutSigns() {
        faultOf(";", 2, 0);
        faultOf("  ;a", 2, 2);
        faultOf("a;  ;b", 2, 4);
        faultOf("a;b;", 2, 4);
        faultOf("a;b;  ", 2, 6);
        faultOf("", 2, 0);
        faultOf(filled("", 600), 2, 600);
        faultOf(filled("a;", 599) + ";", 2, 599);
        faultOf(alike(23, "a") + ";", 2, 46);
    }

    @Sentence(of = 0, says = "3 the ; ahead of the 25th LETTER")
    static void theTwentyFifthLetter() {
        told(alike(24, "a"), 24);
        faultOf(alike(25, "a"), 3, 47);
        faultOf(alike(24, "a") + ";", 3, 47);
        faultOf(alike(24, "a") + " \n;a", 3, 49);
        faultOf(alike(24, "a") + ";;", 3, 47);
        faultOf(alike(24, "a") + ";?", 3, 47);
        told(alike(24, "abcdefghijklmnopqrstuvwx"), 24);
        faultOf(alike(24, "abcdefghijklmnopqrstuvwx") + ";", 3, 599);
    }

    @Sentence(of = 0, says = "4 a SIGN that this LETTER has already (at it)")
    static void signTwice() {
        faultOf("aa", 4, 1);
        faultOf("xx", 4, 1);
        faultOf("a b\na", 4, 4);
        faultOf("ab;abcb", 4, 6);
        told("a;a", 2);
        told("ab;ba;ab", 3);
        faultOf(alike(24, "a") + "a", 4, 47);
        told(alike(24, "a") + "b", 24);
    }

    @Sentence(of = 0, says = "FAULTS, the first byte")
    static void theFirstOfMore() {
        faultOf("?;;aa", 1, 0);
        faultOf(";?aa", 2, 0);
        faultOf("aa?;;", 4, 1);
        faultOf("a;;?", 2, 2);
        faultOf("a?;", 1, 1);
        faultOf(alike(24, "a") + "?;a", 1, 47);
        faultOf(alike(24, "a") + "a;a", 4, 47);
        faultOf(alike(24, "a") + ";aa", 3, 47);
        // The byte at 46 ends an empty 24th letter and is ahead of the 25th: the lesser number is told.
        faultOf(alike(23, "a") + ";;a", 2, 46);
    }

    // ---- words, heaps, rows

    @Sentence(of = 0, says = "k LETTERS as a number to the base n, the first one highest")
    static void theFirstOneHighest() {
        NeverMistaken x = new NeverMistaken();
        Check.net(x, 0, 3, 0, 1);
        // 001 and 000 are mistaken, 200 and 100 are not, 012 and 102 are.
        due("001 000", x.taken(0, 3, 1, 0), 1);
        due("200 100", x.taken(0, 3, 18, 9), 0);
        due("012 102", x.taken(0, 3, 5, 11), 1);
        due("012 021", x.taken(0, 3, 5, 7), 0);
        due("222 222 and 222 220", x.taken(0, 6, 728, 726), 0);
        due("022 222 and 122 222", x.taken(0, 6, 242, 485), 1);
        due("122 222 and 222 222", x.taken(0, 6, 485, 728), 0);
    }

    @Sentence(of = 0, says = "told is, of those as large, that whose WORDS, by rising numbers, are the least row")
    static void theLeastRowOfWords() {
        NeverMistaken x = new NeverMistaken();
        // Codes of two: 0 and 3, 1 and 2 alone.
        Check.net(x, 0, 4, 0, 1, 0, 2, 1, 3, 2, 3);
        due("two", x.most(0, 1), 2);
        due("0", x.word(0), 0);
        due("3", x.word(1), 3);
        // Word 0 is in no largest code.
        Check.net(x, 0, 3, 0, 1, 0, 2);
        due("two", x.most(0, 1), 2);
        due("1", x.word(0), 1);
        due("2", x.word(1), 2);
        // Every other letter from 0 on, not from 1 on.
        x.ring(0, 24);
        x.most(0, 1);
        for (int i = 0; i < 12; i++) {
            due("word " + i, x.word(i), 2 * i);
        }
        x.ring(0, 23);
        due("odd", x.most(0, 1), 11);
        due("the last", x.word(10), 20);
    }

    @Sentence(of = 0, says = "told is the least row (heaps numbered as they come, LETTER by LETTER)")
    static void theLeastRowOfHeaps() {
        NeverMistaken x = new NeverMistaken();
        // The last letter back in the first heap.
        Check.net(x, 0, 4, 0, 3, 1, 2);
        due("two", x.heaps(0), 2);
        int[] row = {0, 1, 1, 0};
        for (int a = 0; a < 4; a++) {
            due("heap of " + a, x.heap(a), row[a]);
        }
        // 0 and 1 in one heap would need a third.
        Check.net(x, 0, 4, 0, 1, 0, 2, 1, 3);
        due("two", x.heaps(0), 2);
        int[] other = {0, 1, 0, 1};
        for (int a = 0; a < 4; a++) {
            due("heap of " + a, x.heap(a), other[a]);
        }
        // 2 goes with 0 or with 1: the first heap it is.
        Check.net(x, 0, 3, 0, 2, 1, 2);
        due("two", x.heaps(0), 2);
        due("heap of 2", x.heap(2), 0);
    }

    @Sentence(of = 0, says = "of each LETTER a row of six whole numbers -30 .. 30, and a HANDLE, a row alike")
    static void allNumbersOfALine() {
        NeverMistaken x = new NeverMistaken();
        x.net(0, 24);
        for (int a = -1; a < 24; a++) {
            for (int i = 0; i < 6; i++) {
                due("at first", x.row(0, a, i, (7 * a + 11 * i) % 31), 0);
            }
        }
        for (int a = -1; a < 24; a++) {
            for (int i = 0; i < 6; i++) {
                due("kept", x.row(0, a, i, 0), (7 * a + 11 * i) % 31);
            }
        }
    }

    /** Row and handle of line 0, at both ends. */
    private static void mark(NeverMistaken x) {
        int last = x.about(0, 0) - 1;
        x.row(0, 0, 0, 30);
        x.row(0, last, 5, -30);
        x.row(0, -1, 0, 29);
        x.row(0, -1, 5, -29);
    }

    private static void marked(NeverMistaken x, boolean kept) {
        int last = x.about(0, 0) - 1;
        due("row", x.row(0, 0, 0, 30), kept ? 30 : 0);
        due("last row", x.row(0, last, 5, -30), kept ? -30 : 0);
        due("handle", x.row(0, -1, 0, 29), kept ? 29 : 0);
        due("handle's end", x.row(0, -1, 5, -29), kept ? -29 : 0);
    }

    @Sentence(of = 0, says = "0 again whenever the LINE is told anew, or a pair changes")
    static void rowsThatAre0Again() {
        NeverMistaken x = new NeverMistaken();
        x.net(0, 3);
        mark(x);
        x.net(0, 3);
        marked(x, false);
        x.mistake(0, 0, 2, true);
        marked(x, false);
        x.mistake(0, 2, 0, false);
        marked(x, false);
        x.ring(0, 3);
        marked(x, false);
        Check.tell(x, 0, "a;b;c");
        marked(x, false);
        x.both(0, 1, 0);
        marked(x, false);
        x.either(0, 1, 0);
        marked(x, false);
    }

    @Sentence(of = 0, says = "0 again whenever the LINE is told anew, or a pair changes")
    static void rowsThatStay() {
        NeverMistaken x = new NeverMistaken();
        Check.net(x, 0, 3, 0, 1);
        mark(x);
        x.mistake(0, 0, 1, true);
        x.mistake(0, 0, 2, false);
        x.mistake(0, 0, 0, true);
        x.mistake(0, 0, 3, true);
        x.net(0, 25);
        x.ring(0, 2);
        Check.tell(x, 0, "a;;");
        marked(x, true);
        x.net(1, 3);
        x.mistake(1, 0, 1, true);
        x.both(0, 0, 2);
        x.either(0, 1, 2);
        x.both(0, 7, 3);
        marked(x, true);
        x.most(0, 1);
        x.heaps(0);
        x.best(0);
        x.met(0);
        x.stands(0);
        marked(x, true);
    }

    // ---- rates and lists

    @Sentence(of = 0, says = "of lengths 1, 2, .. with at most 64 WORDS in all, up to 6 (a LINE of one LETTER: 1 alone)")
    static void bestOfEveryNumberOfLetters() {
        for (int n = 1; n <= 24; n++) {
            NeverMistaken x = new NeverMistaken();
            x.net(0, n);
            due(n + " letters apart, all lengths alike", x.best(0), 1);
            Check.tell(x, 0, alike(n, "a"));
            due(n + " letters mistaken, all lengths alike", x.best(0), 1);
        }
    }

    @Sentence(of = 0, says = "s equals the number, or the BOUND, to the k")
    static void metExactly() {
        NeverMistaken x = new NeverMistaken();
        x.net(0, 2);
        Check.row(x, 0, 0, 1, 0);
        Check.row(x, 0, 1, 0, 1);
        Check.row(x, 0, -1, 1, 1);
        due("2 and 2 and 2", x.met(0), 3);
        Check.row(x, 0, -1, 29, 30);
        due("a little above 2", x.met(0), 1);
        // Five letters around: 5 words of length 2, against 3 heaps.
        x.ring(0, 5);
        due("5 is below 9", x.met(0), 0);
    }

    @Sentence(of = 0, says = "so that no SIGN may come of more than l of them")
    static void noMoreThanL() {
        NeverMistaken x = new NeverMistaken();
        for (String sign : new String[] {"a", "l", "m", "x"}) {
            Check.tell(x, 0, alike(16, sign));
            for (int l : new int[] {1, 2, 14, 15, 16, 17, 24}) {
                due("l " + l + " by " + sign, x.list(0, l), Math.min(16, l));
            }
        }
    }

    @Sentence(of = 0, says = "told is, of those as large, the least set (bit i: LETTER i)")
    static void theLeastSet() {
        NeverMistaken x = new NeverMistaken();
        // 1 and 2, 0 and 3 are as large: 0110 is less than 1001.
        Check.tell(x, 0, "ab;ac;bd;cd");
        due("two", x.list(0, 1), 2);
        due("0 and 3 or 1 and 2", x.listed(), 0b0110);
        Check.tell(x, 0, "a;a;b;b");
        due("two", x.list(0, 1), 2);
        due("0 and 2", x.listed(), 0b0101);
        // The last letter alone fits with others.
        Check.tell(x, 0, "ab;ac;bc;d");
        due("two", x.list(0, 1), 2);
        due("0 and 3", x.listed(), 0b1001);
    }
}
