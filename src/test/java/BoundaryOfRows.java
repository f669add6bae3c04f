/** Promises 18 to 20: row, stands, bound. */
public final class BoundaryOfRows extends Boundary {
    public static void main(String[] args) throws Exception {
        run(BoundaryOfRows.class, 18, 20);
    }

    // ---- row

    @Sentence(of = 18, says = "Number i (0 .. 5)")
    static void noSuchPlace() {
        NeverMistaken x = new NeverMistaken();
        for (int a = -1; a <= 0; a++) {
            due("place -1", x.row(0, a, -1, 1), NO_ROW);
            for (int i = 0; i <= 5; i++) {
                due("place " + i, x.row(0, a, i, i + 1), 0);
            }
            due("place 6", x.row(0, a, 6, 1), NO_ROW);
            for (int far : FAR) {
                due("place " + far, x.row(0, a, far, 1), NO_ROW);
            }
            for (int i = 0; i <= 5; i++) {
                due("place " + i + " was", x.row(0, a, i, 0), i + 1);
            }
        }
    }

    @Sentence(of = 18, says = "of the row of LETTER a (NONE: the HANDLE)")
    static void noSuchLetter() {
        NeverMistaken x = new NeverMistaken();
        for (int n : new int[] {1, 5, 24}) {
            x.net(0, n);
            due("letter -2", x.row(0, -2, 0, 1), NO_ROW);
            due("the handle", x.row(0, -1, 0, 2), 0);
            due("letter 0", x.row(0, 0, 0, 3), 0);
            due("the last of " + n, x.row(0, n - 1, 0, 4), n == 1 ? 3 : 0);
            due("one more than " + n, x.row(0, n, 0, 5), NO_ROW);
            due("the handle was", x.row(0, -1, 0, 0), 2);
            due("letter 0 was", x.row(0, 0, 0, 0), n == 1 ? 4 : 3);
            due("the last was", x.row(0, n - 1, 0, 0), n == 1 ? 0 : 4);
        }
        for (int far : FAR) {
            due("letter " + far, x.row(0, far, 0, 1), NO_ROW);
        }
    }

    @Sentence(of = 18, says = "of a LINE is v")
    static void noSuchLine() {
        NeverMistaken x = new NeverMistaken();
        for (int a = -1; a <= 0; a++) {
            due("line -1", x.row(-1, a, 0, 1), NO_ROW);
            due("line 0", x.row(0, a, 0, 1), 0);
            due("line 7", x.row(7, a, 0, 2), 0);
            due("line 8", x.row(8, a, 0, 1), NO_ROW);
            due("line 0 was", x.row(0, a, 0, 0), 1);
            due("line 7 was", x.row(7, a, 0, 0), 2);
        }
        for (int far : FAR) {
            due("line " + far, x.row(far, 0, 0, 1), NO_ROW);
        }
    }

    @Sentence(of = 18, says = "is v: what it was")
    static void noSuchNumber() {
        NeverMistaken x = new NeverMistaken();
        for (int a = -1; a <= 0; a++) {
            due("31", x.row(0, a, 5, 31), NO_ROW);
            due("30", x.row(0, a, 5, 30), 0);
            due("-30", x.row(0, a, 5, -30), 30);
            due("-31", x.row(0, a, 5, -31), NO_ROW);
            due("31", x.row(0, a, 5, 31), NO_ROW);
            for (int far : FAR) {
                due("" + far, x.row(0, a, 5, far), NO_ROW);
            }
            due("0", x.row(0, a, 5, 0), -30);
        }
    }

    @Sentence(of = 18, says = "RANGE (-31)")
    static void numbersThatOtherCallsRefuseWith() {
        NeverMistaken x = new NeverMistaken();
        for (int v = -30; v <= 30; v++) {
            x.row(0, 0, 0, v);
            due("was " + v, x.row(0, 0, 0, 31), NO_ROW);
            due("was " + v, x.row(0, 0, 0, v), v);
        }
    }

    // ---- stands

    @Sentence(of = 19, says = "NONE if the ROWS of a LINE STAND")
    static void standOrNot() {
        NeverMistaken x = new NeverMistaken();
        due("all 0", x.stands(0), 10000);
        x.row(0, 0, 5, 1);
        due("the handle is 0", x.stands(0), 10000);
        x.row(0, -1, 5, 1);
        due("1 and 1", x.stands(0), NONE);
        x.row(0, -1, 5, -30);
        due("1 and -30", x.stands(0), NONE);
        Check.row(x, 0, 0, 30, 0, 0, 0, 0, 30);
        Check.row(x, 0, -1, 30, 0, 0, 0, 0, -30);
        due("900 less 900", x.stands(0), 10000);
        x.row(0, -1, 5, -29);
        due("900 less 870", x.stands(0), NONE);
    }

    @Sentence(of = 19, says = "100 times the lesser and the other LETTER of the first pair")
    static void firstAndLastPair() {
        NeverMistaken x = new NeverMistaken();
        x.net(0, 24);
        x.row(0, 23, 5, 1);
        x.row(0, 22, 5, 1);
        due("the last pair", x.stands(0), 2223);
        x.row(0, 0, 5, 1);
        due("the first letter with the next that has one", x.stands(0), 22);
        x.row(0, 1, 5, 1);
        due("the first pair", x.stands(0), 1);
        Check.net(x, 0, 24, 22, 23);
        x.row(0, 23, 5, 1);
        x.row(0, 22, 5, 1);
        due("a mistaken pair is free", x.stands(0), 10000);
    }

    @Sentence(of = 19, says = "(by the lesser one, then the other)")
    static void byTheLesserOne() {
        NeverMistaken x = new NeverMistaken();
        x.net(0, 24);
        // 0 and 23 by the first place, 1 and 2 by the second.
        x.row(0, 0, 0, 1);
        x.row(0, 23, 0, -1);
        x.row(0, 1, 1, 1);
        x.row(0, 2, 1, 1);
        due("0 and 23, not 1 and 2", x.stands(0), 23);
        x.row(0, 22, 0, 1);
        due("0 and 22, not 0 and 23", x.stands(0), 22);
        x.row(0, 0, 0, 0);
        due("1 and 2, not 22 and 23", x.stands(0), 102);
        x.row(0, 1, 1, 0);
        due("22 and 23", x.stands(0), 2223);
    }

    @Sentence(of = 19, says = "if all these have, 10000 and the first LETTER whose product with the HANDLE is 0")
    static void firstAndLastAtTheHandle() {
        NeverMistaken x = new NeverMistaken();
        Check.tell(x, 0, alike(24, "a"));
        x.row(0, -1, 3, 30);
        for (int a = 0; a < 24; a++) {
            due("letter " + a, x.stands(0), 10000 + a);
            x.row(0, a, 3, a % 2 == 0 ? 1 : -1);
        }
        due("all stand", x.stands(0), NONE);
        x.row(0, 23, 3, 0);
        x.row(0, 5, 3, 0);
        due("the first of two", x.stands(0), 10005);
    }

    @Sentence(of = 19, says = "or, if all these have, 10000")
    static void pairsAreAheadOfTheHandle() {
        NeverMistaken x = new NeverMistaken();
        x.net(0, 3);
        x.row(0, 1, 0, 1);
        x.row(0, 2, 0, 1);
        due("1 and 2, though 0 has the product 0", x.stands(0), 102);
        x.row(0, 2, 0, 0);
        due("then letter 0", x.stands(0), 10000);
    }

    @Sentence(of = 19, says = "RANGE")
    static void standsOfNoSuchLine() {
        NeverMistaken x = new NeverMistaken();
        due("line -1", x.stands(-1), RANGE);
        due("line 0", x.stands(0), 10000);
        due("line 7", x.stands(7), 10000);
        due("line 8", x.stands(8), RANGE);
        for (int far : FAR) {
            due("line " + far, x.stands(far), RANGE);
        }
    }

    // ---- bound

    private static void boundOf(NeverMistaken x, int above, int below, int letter) {
        due("above", x.bound(0, 0), above);
        due("below", x.bound(0, 1), below);
        due("letter", x.bound(0, 2), letter);
    }

    @Sentence(of = 20, says = "cut as far as can be")
    static void leastBound() {
        NeverMistaken x = new NeverMistaken();
        x.row(0, 0, 0, 1);
        x.row(0, -1, 0, 1);
        boundOf(x, 1, 1, 0);
        Check.row(x, 0, 0, 30, 30, 30, 30, 30, 30);
        Check.row(x, 0, -1, 30, 30, 30, 30, 30, 30);
        boundOf(x, 1, 1, 0);
        Check.row(x, 0, -1, -1, -1, -1, -1, -1, -1);
        boundOf(x, 1, 1, 0);
    }

    @Sentence(of = 20, says = "cut as far as can be")
    static void greatestBound() {
        NeverMistaken x = new NeverMistaken();
        // 30 times -28 and 29 times 29 make 1.
        Check.row(x, 0, 0, 30, 30, 30, 30, 30, 29);
        Check.row(x, 0, -1, -30, -30, 30, 30, -28, 29);
        boundOf(x, 5341 * 5225, 1, 0);
        // Nothing to cut: 5400 less 30, squared, against 5400 times 5341.
        Check.row(x, 0, -1, 30, 30, 30, 30, 30, 30);
        boundOf(x, 32046, 32041, 0);
    }

    @Sentence(of = 20, says = "2: the first LETTER that has it")
    static void firstOfThoseAlike() {
        NeverMistaken x = new NeverMistaken();
        Check.tell(x, 0, alike(4, "a"));
        Check.row(x, 0, -1, 1, 1);
        Check.row(x, 0, 0, 1, 1);
        Check.row(x, 0, 1, 0, 3);
        Check.row(x, 0, 2, 5, 0);
        Check.row(x, 0, 3, -7, 0);
        boundOf(x, 2, 1, 1);
        Check.row(x, 0, 0, -30, 0);
        boundOf(x, 2, 1, 0);
        Check.row(x, 0, 3, 1, 0, 1);
        boundOf(x, 4, 1, 3);
    }

    @Sentence(of = 20, says = "The BOUND by ROWS of a LINE")
    static void greatOnesAreHeldExactly() {
        int[] great = {30, 30, 30, 30, 30, 29};
        int[] even = {-30, -30, 30, 30, -28, 29};
        for (int turn = 0; turn <= 1; turn++) {
            NeverMistaken x = new NeverMistaken();
            Check.net(x, 0, 2, 0, 1);
            Check.row(x, 0, -1, even);
            Check.row(x, 0, turn, great);
            Check.row(x, 0, 1 - turn, even);
            boundOf(x, 5341 * 5225, 1, turn);
        }
    }

    @Sentence(of = 20, says = "NONE: they don't STAND")
    static void boundOfWhatDoesNotStand() {
        NeverMistaken x = new NeverMistaken();
        boundOf(x, NONE, NONE, NONE);
        x.net(0, 2);
        Check.row(x, 0, -1, 1, 1);
        Check.row(x, 0, 0, 1, 0);
        boundOf(x, NONE, NONE, NONE);
        Check.row(x, 0, 1, 0, 1);
        boundOf(x, 2, 1, 0);
        Check.row(x, 0, 1, 1, 1);
        boundOf(x, NONE, NONE, NONE);
        Check.row(x, 0, 1, 0, 1);
        x.mistake(0, 0, 1, true);
        boundOf(x, NONE, NONE, NONE);
    }

    @Sentence(of = 20, says = "RANGE: no such LINE, what")
    static void boundOfNoSuch() {
        NeverMistaken x = new NeverMistaken();
        for (int l : new int[] {0, 7}) {
            due("what -1", x.bound(l, -1), RANGE);
            due("what 0", x.bound(l, 0), NONE);
            due("what 2", x.bound(l, 2), NONE);
            due("what 3", x.bound(l, 3), RANGE);
        }
        x.row(0, 0, 0, 1);
        x.row(0, -1, 0, 1);
        due("what -1 where they stand", x.bound(0, -1), RANGE);
        due("what 0 where they stand", x.bound(0, 0), 1);
        due("what 2 where they stand", x.bound(0, 2), 0);
        due("what 3 where they stand", x.bound(0, 3), RANGE);
        due("line -1", x.bound(-1, 0), RANGE);
        due("line 8", x.bound(8, 0), RANGE);
        for (int far : FAR) {
            due("what " + far, x.bound(0, far), RANGE);
            due("line " + far, x.bound(far, 0), RANGE);
        }
    }
}
