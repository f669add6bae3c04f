/** Promises 1 to 3: a new object, feed, end. */
public final class BoundaryOfTape extends Boundary {
    public static void main(String[] args) throws Exception {
        run(BoundaryOfTape.class, 1, 3);
    }

    /** A tape of so many bytes, all blank. */
    private static NeverMistaken blank(int bytes) {
        NeverMistaken x = new NeverMistaken();
        Check.tape(x, filled("", bytes));
        return x;
    }

    // ---- a new object

    @Sentence(of = 1, says = "Eight NETS")
    static void eightLines() {
        NeverMistaken x = new NeverMistaken();
        due("line -1", x.about(-1, 1), NONE);
        for (int l = 0; l <= 7; l++) {
            due("a net, line " + l, x.about(l, 1), 0);
        }
        due("line 8", x.about(8, 1), NONE);
    }

    @Sentence(of = 1, says = "of one LETTER")
    static void oneLetter() {
        NeverMistaken x = new NeverMistaken();
        for (int l = 0; l <= 7; l++) {
            due("letters", x.about(l, 0), 1);
            due("letter 0", x.about(l, 10), 0);
            due("letter 1", x.about(l, 11), NONE);
            due("pairs", x.about(l, 3), 0);
            due("a row of letter 0", x.row(l, 0, 0, 0), 0);
            due("a row of letter 1", x.row(l, 1, 0, 0), NO_ROW);
        }
    }

    // ---- feed

    @Sentence(of = 2, says = "Twenty bytes come behind THE TAPE")
    static void twentyBytes() {
        NeverMistaken x = new NeverMistaken();
        due("on an empty tape", x.feed(0x20202020, 0x20202020, 0x20202020, 0x20202020, 0x20202061), 20);
        due("behind twenty", x.feed(0x3b202020, 0x20202020, 0x20202020, 0x20202020, 0x20202062), 40);
        due("both are read", x.told(0), 2);
        due("the 20th byte", x.about(0, 40), 1);
        due("the 40th byte", x.about(0, 41), 2);
    }

    @Sentence(of = 2, says = "come behind THE TAPE")
    static void behindAnEnd() {
        NeverMistaken x = new NeverMistaken();
        x.feed(0x61797979, 0x79797979, 0x79797979, 0x79797979, 0x79797979);
        x.end(1);
        due("behind one", x.feed(0x3b626364, 0x20202020, 0x20202020, 0x20202020, 0x20202020), 21);
        due("what end() cut is gone", x.told(0), 2);
        due("the byte that stayed", x.about(0, 40), 1);
        due("the bytes behind it", x.about(0, 41), 14);
    }

    @Sentence(of = 2, says = "the highest of each int first")
    static void highestFirst() {
        NeverMistaken x = new NeverMistaken();
        // a;bcd;efg;hij;klm;no
        x.feed(0x613b6263, 0x643b6566, 0x673b6869, 0x6a3b6b6c, 0x6d3b6e6f);
        due("letters", x.told(0), 6);
        int[] signs = {0b1, 0b1110, 0b1110000, 0b1110000000, 0b1110000000000, 0b110000000000000};
        for (int a = 0; a < 6; a++) {
            due("signs of " + a, x.about(0, 40 + a), signs[a]);
        }
    }

    @Sentence(of = 2, says = "the highest of each int first")
    static void bytesAbove127() {
        int[] fives = {0xff616263, 0x61ff6263, 0x6162ff63, 0x616263ff, 0x80616263, 0x61806263, 0x61628063, 0x61626380};
        for (int i = 0; i < fives.length; i++) {
            NeverMistaken x = new NeverMistaken();
            x.feed(fives[i], 0x20202020, 0x20202020, 0x20202020, 0x20202020);
            due("no sign", x.told(0), NONE);
            due("fault", x.fault(0), 1);
            due("its place", x.fault(1), i % 4);
        }
    }

    @Sentence(of = 2, says = "how many it has")
    static void howManyItHas() {
        NeverMistaken x = new NeverMistaken();
        for (int i = 1; i <= 30; i++) {
            due("feed " + i, x.feed(0, -1, i, -i, Integer.MIN_VALUE), 20 * i);
        }
        x.end(7);
        due("behind seven", x.feed(0, 0, 0, 0, 0), 27);
    }

    @Sentence(of = 2, says = "FULL when there would be more than 600")
    static void moreThan600() {
        due("600 in all", blank(580).feed(0, 0, 0, 0, 0), 600);
        due("601 in all", blank(581).feed(0, 0, 0, 0, 0), FULL);
        due("619 in all", blank(599).feed(0, 0, 0, 0, 0), FULL);
        due("620 in all", blank(600).feed(0, 0, 0, 0, 0), FULL);
    }

    @Sentence(of = 2, says = "FULL when there would be more than 600")
    static void fullLeavesTheTape() {
        NeverMistaken x = new NeverMistaken();
        Check.tape(x, filled("a;b", 590));
        due("full", x.feed(0x79797979, 0x79797979, 0x79797979, 0x79797979, 0x79797979), FULL);
        due("no byte came", x.count(0), 590);
        due("none was put over another", x.told(0), 2);
        due("then there is room", x.feed(0, 0, 0, 0, 0), 20);
    }

    @Sentence(of = 2, says = "FULL when there would be more than 600")
    static void all600AreRead() {
        NeverMistaken x = new NeverMistaken();
        Check.tape(x, filled("", 599) + "x");
        due("the last byte is a letter", x.told(0), 1);
        Check.tape(x, filled("a", 599) + "y");
        due("the last byte is wrong", x.told(0), NONE);
        due("its place", x.fault(1), 599);
        Check.tape(x, filled("a;", 600));
        due("no sign up to the end", x.told(0), NONE);
        due("the text's length", x.fault(1), 600);
    }

    // ---- end

    @Sentence(of = 3, says = "THE TAPE has its first n bytes alone: n")
    static void firstBytesAlone() {
        String text = "a;b;c;d;e;f";
        for (int n = 1; n <= 11; n += 2) {
            NeverMistaken x = new NeverMistaken();
            Check.tape(x, text);
            due("end(" + n + ")", x.end(n), n);
            due("bytes", x.count(0), n);
            due("letters", x.told(0), (n + 1) / 2);
        }
    }

    @Sentence(of = 3, says = "THE TAPE has its first n bytes alone: n")
    static void firstNone() {
        NeverMistaken x = blank(20);
        due("end(0)", x.end(0), 0);
        due("bytes", x.count(0), 0);
        due("again", x.end(0), 0);
        due("none comes back", x.end(20), NONE);
    }

    @Sentence(of = 3, says = "NONE when it has not so many")
    static void notSoMany() {
        for (int bytes : new int[] {0, 1, 19, 20, 21, 599, 600}) {
            NeverMistaken x = blank(bytes);
            due("one more than " + bytes, x.end(bytes + 1), NONE);
            due("the tape stays", x.count(0), bytes);
            due("as many as " + bytes, x.end(bytes), bytes);
            due("the tape stays", x.count(0), bytes);
        }
    }

    @Sentence(of = 3, says = "or n is below 0")
    static void belowZero() {
        NeverMistaken x = blank(20);
        due("end(-1)", x.end(-1), NONE);
        due("end(-20)", x.end(-20), NONE);
        for (int far : FAR) {
            due("end(" + far + ")", x.end(far), NONE);
        }
        due("the tape stays", x.count(0), 20);
        due("end(0)", x.end(0), 0);
    }
}
