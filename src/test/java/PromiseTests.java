/** For each promise of the document ordinary calls, the edges that it names, and wrong calls. */
public final class PromiseTests {
    private static final int NONE = -1;
    private static final int RANGE = -2;
    private static final int FULL = -3;
    private static final int STATE = -4;
    private static final int[] FAR = {Integer.MIN_VALUE, -1000000, 1000000, Integer.MAX_VALUE};

    private static final Check check = new Check("PromiseTests");

    public static void main(String[] args) {
        newObject();
        feed();
        end();
        net();
        mistake();
        ring();
        told();
        fault();
        both();
        either();
        about();
        taken();
        most();
        word();
        ways();
        heaps();
        heap();
        row();
        stands();
        bound();
        compare();
        best();
        met();
        came();
        sent();
        list();
        listed();
        count();
        check.close();
    }

    private static void due(String what, long got, long want) {
        check.due(what, got, want);
    }

    private static void newObject() {
        NeverMistaken x = new NeverMistaken();
        for (int l = 0; l < 8; l++) {
            due("1: letters", x.about(l, 0), 1);
            due("1: kind", x.about(l, 1), 0);
            due("1: pairs", x.about(l, 3), 0);
            due("1: near", x.about(l, 10), 0);
            due("1: row", x.row(l, 0, 5, 0), 0);
            due("1: handle", x.row(l, -1, 0, 0), 0);
        }
        due("1: tape", x.count(0), 0);
        due("1: fault", x.fault(0), 0);
        due("1: place", x.fault(1), NONE);
        due("1: word", x.word(0), NONE);
        due("1: heap", x.heap(0), NONE);
        due("1: sent", x.sent(), NONE);
        due("1: listed", x.listed(), NONE);
    }

    private static void feed() {
        NeverMistaken x = new NeverMistaken();
        due("2: first", x.feed(0x613b6263, 0x3b642065, 0x0a3b7820, 0x20202020, 0x20202020), 20);
        due("2: told", x.told(0), 4);
        due("2: a", x.about(0, 40), 1);
        due("2: bc", x.about(0, 41), 6);
        due("2: de", x.about(0, 42), 24);
        due("2: x", x.about(0, 43), 1 << 23);
        for (int i = 1; i <= 30; i++) {
            due("2: more", x.feed(i, -i, i, -i, i), 20 * i);
        }
        due("2: full", x.feed(0, 0, 0, 0, 0), FULL);
        due("2: stays", x.count(0), 600);
        x.end(581);
        due("2: full by one", x.feed(0, 0, 0, 0, 0), FULL);
        x.end(580);
        due("2: just room", x.feed(0, 0, 0, 0, 0), 600);
        x.end(0);
        x.feed(0xff616161, 0, 0, 0, 0);
        due("2: high byte is a byte", x.told(0), NONE);
        due("2: at its place", x.fault(1), 0);
    }

    private static void end() {
        NeverMistaken x = new NeverMistaken();
        due("3: empty", x.end(0), 0);
        due("3: not so many", x.end(1), NONE);
        x.feed(0x61626364, 0, 0, 0, 0);
        due("3: below 0", x.end(-1), NONE);
        due("3: too many", x.end(21), NONE);
        due("3: stays", x.count(0), 20);
        due("3: all", x.end(20), 20);
        due("3: four", x.end(4), 4);
        due("3: never back", x.end(5), NONE);
        due("3: the first ones", x.told(0), 1);
        due("3: signs", x.about(0, 40), 15);
        for (int far : FAR) {
            due("3: far", x.end(far), NONE);
        }
    }

    private static void net() {
        NeverMistaken x = new NeverMistaken();
        due("4: least", x.net(0, 1), 1);
        due("4: greatest", x.net(7, 24), 24);
        due("4: letters", x.about(7, 0), 24);
        due("4: too many", x.net(7, 25), RANGE);
        due("4: none", x.net(7, 0), RANGE);
        due("4: line -1", x.net(-1, 3), RANGE);
        due("4: line 8", x.net(8, 3), RANGE);
        due("4: stays", x.about(7, 0), 24);
        x.ring(1, 5);
        x.row(1, 4, 0, 7);
        x.row(1, -1, 0, 7);
        due("4: over a ring", x.net(1, 5), 5);
        due("4: kind", x.about(1, 1), 0);
        due("4: none mistaken", x.about(1, 3), 0);
        due("4: row is 0 again", x.row(1, 4, 0, 0), 0);
        due("4: handle is 0 again", x.row(1, -1, 0, 0), 0);
        for (int far : FAR) {
            due("4: far line", x.net(far, 2), RANGE);
            due("4: far letters", x.net(2, far), RANGE);
        }
    }

    private static void mistake() {
        NeverMistaken x = new NeverMistaken();
        x.net(3, 4);
        due("5: on", x.mistake(3, 1, 3, true), 1);
        due("5: on again", x.mistake(3, 3, 1, true), 0);
        due("5: of one", x.about(3, 11), 8);
        due("5: of the other", x.about(3, 13), 2);
        x.row(3, 2, 1, 9);
        x.row(3, -1, 1, 9);
        due("5: nothing changes", x.mistake(3, 0, 1, false), 0);
        due("5: row stays", x.row(3, 2, 1, 9), 9);
        due("5: off", x.mistake(3, 3, 1, false), 1);
        due("5: row is 0 again", x.row(3, 2, 1, 0), 0);
        due("5: handle is 0 again", x.row(3, -1, 1, 0), 0);
        due("5: pairs", x.about(3, 3), 0);
        due("5: the same", x.mistake(3, 2, 2, true), RANGE);
        due("5: no such letter", x.mistake(3, 0, 4, true), RANGE);
        due("5: no such letter", x.mistake(3, -1, 0, true), RANGE);
        due("5: no such line", x.mistake(8, 0, 1, true), RANGE);
        x.ring(4, 5);
        due("5: ring", x.mistake(4, 0, 2, true), STATE);
        due("5: ring, the same", x.mistake(4, 2, 2, true), RANGE);
        Check.tell(x, 5, "a;b");
        due("5: told", x.mistake(5, 0, 1, true), STATE);
        due("5: told, no such", x.mistake(5, 0, 2, true), RANGE);
        x.either(4, 4, 4);
        due("5: joined ones are nets", x.mistake(4, 0, 5, true), 1);
        for (int far : FAR) {
            due("5: far", x.mistake(far, 0, 1, true), RANGE);
            due("5: far", x.mistake(3, far, 1, true), RANGE);
            due("5: far", x.mistake(3, 1, far, true), RANGE);
        }
    }

    private static void ring() {
        NeverMistaken x = new NeverMistaken();
        due("6: three", x.ring(0, 3), 3);
        due("6: pairs", x.about(0, 3), 3);
        due("6: four", x.ring(0, 4), 4);
        due("6: pairs", x.about(0, 3), 4);
        due("6: near 0", x.about(0, 10), 10);
        due("6: near 3", x.about(0, 13), 5);
        due("6: greatest", x.ring(0, 24), 24);
        due("6: near 0", x.about(0, 10), 1 << 23 | 2);
        due("6: near 23", x.about(0, 33), 1 << 22 | 1);
        x.row(0, 0, 0, 3);
        due("6: two", x.ring(0, 2), RANGE);
        due("6: too many", x.ring(0, 25), RANGE);
        due("6: no such line", x.ring(8, 5), RANGE);
        due("6: stays", x.row(0, 0, 0, 3), 3);
        due("6: anew", x.ring(0, 24), 24);
        due("6: row is 0 again", x.row(0, 0, 0, 3), 0);
        for (int far : FAR) {
            due("6: far", x.ring(far, 3), RANGE);
            due("6: far", x.ring(0, far), RANGE);
        }
    }

    private static void told() {
        NeverMistaken x = new NeverMistaken();
        due("7: told", Check.tell(x, 2, " a b;\nbc ;x"), 3);
        due("7: tape is empty", x.count(0), 0);
        due("7: kind", x.about(2, 1), 1);
        due("7: near 0", x.about(2, 10), 2);
        due("7: near 2", x.about(2, 12), 0);
        due("7: signs", x.about(2, 42), 1 << 23);
        due("7: an empty text", x.told(2), NONE);
        due("7: the line stays", x.about(2, 0), 3);
        Check.tape(x, "a;b");
        due("7: no such line", x.told(8), RANGE);
        due("7: then too the tape is empty", x.count(0), 0);
        due("7: but the latest fault stays", x.fault(0), 2);
        due("7: at its place", x.fault(1), 0);
        x.feed(0, 0, 0, 0, 0);
        due("7: no such line", x.told(-1), RANGE);
        due("7: the next bytes come first", x.feed(0, 0, 0, 0, 0), 20);
        for (int far : FAR) {
            Check.tape(x, "a;b");
            due("7: far", x.told(far), RANGE);
            due("7: far, the tape is empty", x.count(0), 0);
        }
        due("7: the line of it", Check.tell(x, 3, "a;b"), 2);
        due("7: fault", Check.tell(x, 3, "a;;b"), NONE);
        due("7: the tape is read all the same", x.count(0), 0);
        due("7: the line stays", x.about(3, 0), 2);
        String most = "a;b;c;d;e;f;g;h;i;j;k;l;m;n;o;p;q;r;s;t;u;v;w;xa";
        due("7: 24 letters", Check.tell(x, 4, most), 24);
        due("7: 0 and 23", x.about(4, 10), 1 << 23);
        x.row(4, 0, 0, 5);
        due("7: anew", Check.tell(x, 4, most), 24);
        due("7: row is 0 again", x.row(4, 0, 0, 5), 0);
        due("7: fault", Check.tell(x, 4, "y"), NONE);
        due("7: row stays", x.row(4, 0, 0, 5), 5);
        StringBuilder blanks = new StringBuilder("q");
        while (blanks.length() < 600) {
            blanks.append(blanks.length() % 2 == 0 ? ' ' : '\n');
        }
        due("7: 600 bytes", Check.tell(x, 5, blanks.toString()), 1);
    }

    private static void faultOf(NeverMistaken x, String text, int what, int where) {
        due("8: of " + text, Check.tell(x, 0, text), NONE);
        due("8: what of " + text, x.fault(0), what);
        due("8: where of " + text, x.fault(1), where);
    }

    private static void fault() {
        NeverMistaken x = new NeverMistaken();
        due("8: ahead of any", x.fault(0), 0);
        due("8: ahead of any", x.fault(1), NONE);
        faultOf(x, "", 2, 0);
        faultOf(x, " \n ", 2, 3);
        faultOf(x, "a;", 2, 2);
        faultOf(x, "a; ", 2, 3);
        faultOf(x, ";a", 2, 0);
        faultOf(x, "a; ;y", 2, 3);
        faultOf(x, "a y;;", 1, 2);
        faultOf(x, "`", 1, 0);
        faultOf(x, "ab\t", 1, 2);
        faultOf(x, "a" + (char) 225, 1, 1);
        faultOf(x, "ab a", 4, 3);
        faultOf(x, "a;b;bb", 4, 5);
        StringBuilder many = new StringBuilder("a");
        for (int i = 1; i < 24; i++) {
            many.append(";a");
        }
        faultOf(x, many + ";a", 3, 47);
        faultOf(x, many + ";", 3, 47);
        faultOf(x, many + " ;y", 3, 48);
        faultOf(x, many + "a;a", 4, 47);
        faultOf(x, many.substring(0, 46) + ";a", 2, 46);
        due("8: another", x.fault(2), NONE);
        due("8: another", x.fault(-1), NONE);
        x.told(9);
        due("8: after RANGE", x.fault(0), 2);
        Check.tell(x, 0, "a");
        due("8: without", x.fault(0), 0);
        due("8: without", x.fault(1), NONE);
        faultOf(x, "aa", 4, 1);
        x.most(0, 1);
        Check.read(x, 0, "?");
        due("8: came is no told", x.fault(0), 4);
    }

    private static void both() {
        NeverMistaken x = new NeverMistaken();
        Check.net(x, 0, 2, 0, 1);
        Check.net(x, 1, 3, 0, 2);
        due("9: six", x.both(0, 1, 2), 6);
        due("9: kind", x.about(2, 1), 0);
        due("9: (0, 0)", x.about(2, 10), 0b101101 & ~1);
        due("9: (0, 1)", x.about(2, 11), 0b010000);
        due("9: (1, 2)", x.about(2, 15), 0b001101);
        x.row(1, 0, 0, 4);
        due("9: in place", x.both(0, 1, 1), 6);
        due("9: row is 0 again", x.row(1, 0, 0, 4), 0);
        due("9: as apart", x.about(1, 15), 0b001101);
        due("9: with itself", x.both(0, 0, 0), 4);
        due("9: all mistaken", x.about(0, 3), 6);
        due("9: 24", x.both(0, 1, 3), 24);
        due("9: too many", x.both(3, 0, 4), FULL);
        due("9: stays", x.about(4, 0), 1);
        x.ring(5, 5);
        due("9: 25", x.both(5, 5, 5), FULL);
        due("9: stays a ring", x.about(5, 1), 2);
        due("9: times one", x.both(5, 4, 5), 5);
        due("9: a net then", x.about(5, 1), 0);
        due("9: pairs", x.about(5, 3), 5);
        due("9: no such", x.both(8, 0, 0), RANGE);
        due("9: no such", x.both(0, -1, 0), RANGE);
        due("9: no such", x.both(3, 3, 8), RANGE);
        Check.tell(x, 6, "ab;bc");
        due("9: of a told one", x.both(6, 4, 6), 2);
        due("9: a net then", x.about(6, 1), 0);
        due("9: no signs", x.about(6, 40), NONE);
        due("9: no signs", x.about(6, 4), 0);
    }

    private static void either() {
        NeverMistaken x = new NeverMistaken();
        Check.net(x, 0, 2, 0, 1);
        x.ring(1, 4);
        due("10: six", x.either(0, 1, 2), 6);
        due("10: kind", x.about(2, 1), 0);
        due("10: 0", x.about(2, 10), 2);
        due("10: 2", x.about(2, 12), 0b101000);
        due("10: 5", x.about(2, 15), 0b010100);
        due("10: other way round", x.either(1, 0, 2), 6);
        due("10: 0", x.about(2, 10), 10);
        due("10: 5", x.about(2, 15), 16);
        x.row(0, -1, 0, 4);
        due("10: in place", x.either(1, 0, 0), 6);
        due("10: handle is 0 again", x.row(0, -1, 0, 4), 0);
        due("10: pairs", x.about(0, 3), 5);
        due("10: with itself", x.either(0, 0, 0), 12);
        due("10: pairs", x.about(0, 3), 10);
        due("10: 24", x.either(0, 0, 0), 24);
        due("10: 25", x.either(0, 7, 0), FULL);
        due("10: stays", x.about(0, 0), 24);
        due("10: no such", x.either(8, 0, 0), RANGE);
        due("10: no such", x.either(0, 8, 0), RANGE);
        due("10: no such", x.either(0, 0, -1), RANGE);
    }

    private static void about() {
        NeverMistaken x = new NeverMistaken();
        Check.tell(x, 1, "ab;b;cx");
        due("11: letters", x.about(1, 0), 3);
        due("11: kind", x.about(1, 1), 1);
        due("11: 2", x.about(1, 2), NONE);
        due("11: pairs", x.about(1, 3), 1);
        due("11: signs", x.about(1, 4), 4);
        due("11: 5", x.about(1, 5), NONE);
        due("11: 9", x.about(1, 9), NONE);
        due("11: near", x.about(1, 10), 2);
        due("11: near", x.about(1, 12), 0);
        due("11: no such letter", x.about(1, 13), NONE);
        due("11: 39", x.about(1, 39), NONE);
        due("11: its signs", x.about(1, 40), 3);
        due("11: its signs", x.about(1, 42), 4 | 1 << 23);
        due("11: no such letter", x.about(1, 43), NONE);
        x.ring(2, 24);
        due("11: a ring's signs", x.about(2, 4), 0);
        due("11: a ring's signs", x.about(2, 40), NONE);
        due("11: near 23", x.about(2, 33), 1 << 22 | 1);
        due("11: 34", x.about(2, 34), NONE);
        due("11: no such line", x.about(-1, 0), NONE);
        due("11: no such line", x.about(8, 1), NONE);
        for (int far : FAR) {
            due("11: far", x.about(far, 0), NONE);
            due("11: far", x.about(1, far), NONE);
        }
    }

    private static void taken() {
        NeverMistaken x = new NeverMistaken();
        x.ring(0, 5);
        due("12: beside", x.taken(0, 1, 0, 4), 1);
        due("12: apart", x.taken(0, 1, 0, 2), 0);
        due("12: same, beside", x.taken(0, 2, 0, 1), 1);
        due("12: beside both", x.taken(0, 2, 0, 6), 1);
        due("12: beside, apart", x.taken(0, 2, 0, 7), 0);
        due("12: the first one is highest", x.taken(0, 2, 0, 10), 0);
        due("12: length 6", x.taken(0, 6, 0, 15624), 1);
        due("12: length 6", x.taken(0, 6, 15624, 0), 1);
        due("12: too high", x.taken(0, 6, 0, 15625), RANGE);
        due("12: the same", x.taken(0, 2, 3, 3), RANGE);
        due("12: below", x.taken(0, 2, -1, 3), RANGE);
        due("12: length 0", x.taken(0, 0, 0, 1), RANGE);
        due("12: length 7", x.taken(0, 7, 0, 1), RANGE);
        due("12: no such line", x.taken(8, 1, 0, 1), RANGE);
        x.ring(1, 24);
        due("12: the greatest word", x.taken(1, 6, 191102975, 0), 1);
        due("12: the greatest word", x.taken(1, 6, 191102975, 1), 0);
        due("12: one more", x.taken(1, 6, 191102976, 0), RANGE);
        due("12: one letter has one word", x.taken(2, 6, 0, 1), RANGE);
        for (int far : FAR) {
            due("12: far", x.taken(far, 1, 0, 1), RANGE);
            due("12: far", x.taken(0, far, 0, 1), RANGE);
            due("12: far", x.taken(0, 1, far, 1), RANGE);
            due("12: far", x.taken(0, 1, 1, far), RANGE);
        }
    }

    private static void mostOf(NeverMistaken x, int l, int k, int... words) {
        due("13: most of " + l + ", " + k, x.most(l, k), words.length);
        for (int i = 0; i < words.length; i++) {
            due("13: word " + i + " of " + l + ", " + k, x.word(i), words[i]);
        }
    }

    private static void most() {
        NeverMistaken x = new NeverMistaken();
        mostOf(x, 0, 1, 0);
        mostOf(x, 0, 6, 0);
        x.ring(0, 5);
        mostOf(x, 0, 1, 0, 2);
        mostOf(x, 0, 2, 0, 7, 14, 16, 23);
        Check.net(x, 1, 5, 0, 1, 0, 2, 0, 3, 0, 4);
        mostOf(x, 1, 1, 1, 2, 3, 4);
        Check.net(x, 1, 4, 0, 1, 1, 2, 2, 3);
        mostOf(x, 1, 1, 0, 2);
        Check.net(x, 2, 2, 0, 1);
        mostOf(x, 2, 6, 0);
        x.net(2, 2);
        due("13: 64 words apart", x.most(2, 6), 64);
        due("13: the last", x.word(63), 63);
        x.net(3, 8);
        due("13: 64 words apart", x.most(3, 2), 64);
        due("13: no such", x.most(3, 0), RANGE);
        due("13: no such", x.most(3, 7), RANGE);
        due("13: no such", x.most(8, 1), RANGE);
        due("13: 512 words", x.most(3, 3), FULL);
        x.net(4, 9);
        due("13: 81 words", x.most(4, 2), FULL);
        x.net(4, 24);
        due("13: the most words", x.most(4, 6), FULL);
        for (int far : FAR) {
            due("13: far", x.most(far, 1), RANGE);
            due("13: far", x.most(0, far), RANGE);
        }
    }

    private static void word() {
        NeverMistaken x = new NeverMistaken();
        due("14: ahead of any", x.word(0), NONE);
        x.most(9, 1);
        due("14: RANGE tells none", x.word(0), NONE);
        Check.net(x, 0, 3, 0, 1);
        x.most(0, 1);
        due("14: first", x.word(0), 0);
        due("14: second", x.word(1), 2);
        due("14: no third", x.word(2), NONE);
        due("14: below", x.word(-1), NONE);
        x.most(0, 7);
        x.most(0, 4);
        x.net(0, 1);
        x.best(0);
        x.met(0);
        x.ways(0, 1);
        x.heaps(0);
        due("14: stays", x.word(1), 2);
        x.most(0, 1);
        due("14: the latest", x.word(1), NONE);
        for (int far : FAR) {
            due("14: far", x.word(far), NONE);
        }
    }

    private static void ways() {
        NeverMistaken x = new NeverMistaken();
        due("15: one", x.ways(0, 6), 1);
        x.ring(0, 5);
        due("15: ring", x.ways(0, 1), 5);
        due("15: 25 words", x.ways(0, 2), FULL);
        x.ring(0, 24);
        due("15: even ring", x.ways(0, 1), 2);
        due("15: 576 words", x.ways(0, 2), FULL);
        x.ring(0, 23);
        due("15: odd ring", x.ways(0, 1), 23);
        x.net(0, 24);
        due("15: all apart", x.ways(0, 1), 1);
        for (int a = 0; a < 24; a += 3) {
            x.mistake(0, a, a + 1, true);
            x.mistake(0, a, a + 2, true);
            x.mistake(0, a + 1, a + 2, true);
        }
        due("15: eight threes", x.ways(0, 1), 6561);
        Check.net(x, 1, 2, 0, 1);
        due("15: pairs of a pair", x.ways(1, 4), 16);
        due("15: 32 words", x.ways(1, 5), FULL);
        due("15: no such", x.ways(1, 0), RANGE);
        due("15: no such", x.ways(1, 7), RANGE);
        due("15: no such", x.ways(-1, 1), RANGE);
        for (int far : FAR) {
            due("15: far", x.ways(far, 1), RANGE);
            due("15: far", x.ways(0, far), RANGE);
        }
    }

    private static void heapsOf(NeverMistaken x, int l, int fewest, int... row) {
        due("16: heaps", x.heaps(l), fewest);
        for (int a = 0; a < row.length; a++) {
            due("16: heap of " + a, x.heap(a), row[a]);
        }
        due("17: no such letter", x.heap(row.length), NONE);
        due("17: no such letter", x.heap(-1), NONE);
    }

    private static void heaps() {
        NeverMistaken x = new NeverMistaken();
        heapsOf(x, 0, 1, 0);
        x.ring(0, 5);
        heapsOf(x, 0, 3, 0, 0, 1, 1, 2);
        x.ring(0, 3);
        heapsOf(x, 0, 1, 0, 0, 0);
        x.ring(0, 6);
        heapsOf(x, 0, 3, 0, 0, 1, 1, 2, 2);
        // 0 and 1 in one heap would leave 2 and 3 alone.
        Check.net(x, 1, 4, 0, 1, 0, 2, 1, 3);
        heapsOf(x, 1, 2, 0, 1, 0, 1);
        Check.net(x, 1, 4, 0, 3);
        heapsOf(x, 1, 3, 0, 1, 2, 0);
        x.net(2, 24);
        due("16: all apart", x.heaps(2), 24);
        due("16: the last heap", x.heap(23), 23);
        due("16: no such", x.heaps(8), RANGE);
        due("16: no such", x.heaps(-1), RANGE);
        for (int far : FAR) {
            due("16: far", x.heaps(far), RANGE);
        }
    }

    private static void heap() {
        NeverMistaken x = new NeverMistaken();
        due("17: ahead of any", x.heap(0), NONE);
        x.heaps(8);
        due("17: RANGE tells none", x.heap(0), NONE);
        x.net(0, 3);
        x.heaps(0);
        x.net(0, 1);
        x.met(1);
        x.heaps(-1);
        due("17: stays", x.heap(2), 2);
        x.heaps(0);
        due("17: the latest", x.heap(1), NONE);
        for (int far : FAR) {
            due("17: far", x.heap(far), NONE);
        }
    }

    private static void row() {
        NeverMistaken x = new NeverMistaken();
        x.ring(0, 3);
        due("18: was 0", x.row(0, 2, 5, 30), 0);
        due("18: was 30", x.row(0, 2, 5, -30), 30);
        due("18: was -30", x.row(0, 2, 5, 0), -30);
        due("18: handle", x.row(0, -1, 0, 2), 0);
        due("18: handle", x.row(0, -1, 0, 3), 2);
        due("18: not the letter", x.row(0, 0, 0, 1), 0);
        due("18: too high", x.row(0, 0, 0, 31), -31);
        due("18: too low", x.row(0, 0, 0, -31), -31);
        due("18: no such letter", x.row(0, 3, 0, 1), -31);
        due("18: no such letter", x.row(0, -2, 0, 1), -31);
        due("18: no such place", x.row(0, 0, 6, 1), -31);
        due("18: no such place", x.row(0, 0, -1, 1), -31);
        due("18: no such line", x.row(8, 0, 0, 1), -31);
        due("18: no such line", x.row(-1, 0, 0, 1), -31);
        due("18: stays", x.row(0, 0, 0, 1), 1);
        for (int far : FAR) {
            due("18: far", x.row(far, 0, 0, 1), -31);
            due("18: far", x.row(0, far, 0, 1), -31);
            due("18: far", x.row(0, 0, far, 1), -31);
            due("18: far", x.row(0, 0, 0, far), -31);
        }
    }

    private static void stands() {
        NeverMistaken x = new NeverMistaken();
        due("19: all 0", x.stands(0), 10000);
        x.net(0, 3);
        Check.row(x, 0, 1, 1, 1);
        Check.row(x, 0, 2, 1, 1);
        due("19: 1 and 2", x.stands(0), 102);
        Check.row(x, 0, 0, 2, 0);
        due("19: 0 and 1", x.stands(0), 1);
        Check.row(x, 0, 0, 1, -1);
        due("19: 1 and 2", x.stands(0), 102);
        Check.row(x, 0, 2, 0, 0, 4);
        due("19: the handle", x.stands(0), 10000);
        Check.row(x, 0, -1, 1, 0);
        due("19: the handle", x.stands(0), 10002);
        Check.row(x, 0, -1, 1, 0, -1);
        due("19: stand", x.stands(0), NONE);
        x.ring(1, 4);
        for (int a = 0; a < 4; a++) {
            Check.row(x, 1, a, 1);
        }
        due("19: mistaken ones are free", x.stands(1), 2);
        x.ring(1, 3);
        for (int a = 0; a < 3; a++) {
            Check.row(x, 1, a, 1);
        }
        Check.row(x, 1, -1, -30);
        due("19: mistaken ones are free", x.stands(1), NONE);
        x.net(2, 24);
        Check.row(x, 2, 22, 0, 0, 0, 0, 0, 30);
        Check.row(x, 2, 23, 0, 0, 0, 0, 0, 30);
        due("19: the last pair", x.stands(2), 2223);
        due("19: no such", x.stands(8), RANGE);
        for (int far : FAR) {
            due("19: far", x.stands(far), RANGE);
        }
    }

    private static void boundOf(NeverMistaken x, int l, int above, int below, int letter) {
        due("20: above", x.bound(l, 0), above);
        due("20: below", x.bound(l, 1), below);
        due("20: letter", x.bound(l, 2), letter);
    }

    private static void bound() {
        NeverMistaken x = new NeverMistaken();
        boundOf(x, 0, NONE, NONE, NONE);
        due("20: no such", x.bound(0, 3), RANGE);
        due("20: no such", x.bound(0, -1), RANGE);
        due("20: no such", x.bound(8, 0), RANGE);
        Check.row(x, 0, 0, 3, 4);
        Check.row(x, 0, -1, 1, 2);
        boundOf(x, 0, 125, 121, 0);
        Check.row(x, 0, -1, -6, -8);
        boundOf(x, 0, 1, 1, 0);
        x.net(1, 3);
        Check.row(x, 1, 0, 5);
        Check.row(x, 1, 1, 0, -7);
        Check.row(x, 1, 2, 0, 0, 1);
        Check.row(x, 1, -1, 2, 1, 1);
        boundOf(x, 1, 6, 1, 1);
        Check.row(x, 1, -1, 2, 2, 3);
        boundOf(x, 1, 17, 4, 0);
        x.ring(2, 3);
        Check.row(x, 2, 0, 30, 30, 30, 30, 30, 30);
        Check.row(x, 2, 1, 30, 30, 30, 30, 30, 29);
        Check.row(x, 2, 2, 30, 30, 30, 30, -30, -29);
        Check.row(x, 2, -1, 30, 30, 30, 30, 30, 30);
        due("20: great numbers", x.bound(2, 2), 2);
        // 5341 times 5400 over 1830 squared, cut by 900.
        boundOf(x, 2, 32046, 3721, 2);
        Check.row(x, 2, 2, 30, 30, 30, -30, -30, -29);
        boundOf(x, 2, 32046, 1, 2);
    }

    private static void compare() {
        NeverMistaken x = new NeverMistaken();
        due("21: higher", x.compare(5, 2, 2, 1), 1);
        due("21: alike", x.compare(8, 3, 4, 2), 0);
        due("21: lower", x.compare(10, 2, 33, 3), -1);
        due("21: greatest alike", x.compare(1000, 12, 1000, 12), 0);
        due("21: greatest, by one", x.compare(999, 12, 1000, 12), -1);
        due("21: one word", x.compare(1, 1, 1, 12), 0);
        due("21: one word", x.compare(1, 12, 2, 12), -1);
        due("21: powers of 10", x.compare(1000, 12, 10, 4), 0);
        due("21: powers of 10", x.compare(1000, 12, 10, 5), 1);
        due("21: far apart", x.compare(1000, 1, 1000, 12), 1);
        // 961 is 31 squared.
        due("21: near one another", x.compare(961, 12, 31, 6), 0);
        due("21: near one another", x.compare(960, 12, 31, 6), -1);
        int[][] wrong = {{0, 1, 1, 1}, {1001, 1, 1, 1}, {1, 0, 1, 1}, {1, 13, 1, 1}, {1, 1, 0, 1}, {1, 1, 1001, 1}, {1, 1, 1, 0}, {1, 1, 1, 13}};
        for (int[] w : wrong) {
            due("21: range", x.compare(w[0], w[1], w[2], w[3]), RANGE);
        }
        for (int far : FAR) {
            due("21: far", x.compare(far, 1, 1, 1), RANGE);
            due("21: far", x.compare(1, far, 1, 1), RANGE);
            due("21: far", x.compare(1, 1, far, 1), RANGE);
            due("21: far", x.compare(1, 1, 1, far), RANGE);
        }
    }

    private static void best() {
        NeverMistaken x = new NeverMistaken();
        due("22: one letter", x.best(0), 1);
        x.ring(0, 5);
        due("22: ring of 5", x.best(0), 2);
        x.ring(0, 7);
        due("22: ring of 7", x.best(0), 2);
        x.ring(0, 6);
        due("22: ring of 6", x.best(0), 1);
        x.ring(0, 9);
        due("22: ring of 9 has length 1 alone", x.best(0), 1);
        x.net(0, 2);
        due("22: two letters", x.best(0), 1);
        x.ring(1, 5);
        x.either(1, 2, 3);
        // 3 letters of 6, but 5 + 2 + 2 + 1 words of 36.
        due("22: ring of 5 or one more", x.best(3), 2);
        // 5 letters of 8, but 5 + 6 + 6 + 9 words of all 64.
        x.net(4, 3);
        x.either(1, 4, 3);
        due("22: with 64 words", x.best(3), 2);
        due("22: with 64 words", x.most(3, 2), 26);
        due("22: no such", x.best(8), RANGE);
        due("22: no such", x.best(-1), RANGE);
        for (int far : FAR) {
            due("22: far", x.best(far), RANGE);
        }
    }

    /** Rows of one and three ones, by pairs apart: their bound is 4, but four heaps are not enough. */
    static void fourByRows(NeverMistaken x, int l) {
        int[][] rows = {{1, 0, -1, -1, 1, 0}, {1, -1, 0, 1, 0, 1}, {1, 0, -1, 1, -1, 0}, {1, 0, 1, -1, -1, 0},
            {1, 1, 1, 0, 0, 1}, {1, 0, -1, -1, -1, 0}, {1, 1, 0, 1, 0, -1}, {1, -1, 0, 0, 1, -1},
            {1, -1, 1, 0, 0, -1}, {1, 1, 0, 0, 1, 1}};
        x.net(l, rows.length);
        for (int a = 0; a < rows.length; a++) {
            for (int b = 0; b < a; b++) {
                if (Model.product(rows[a], rows[b]) != 0) {
                    x.mistake(l, a, b, true);
                }
            }
        }
        for (int a = 0; a < rows.length; a++) {
            Check.row(x, l, a, rows[a]);
        }
        Check.row(x, l, -1, 1);
    }

    private static void met() {
        NeverMistaken x = new NeverMistaken();
        due("23: one letter", x.met(0), 1);
        Check.row(x, 0, 0, 2);
        Check.row(x, 0, -1, 3);
        due("23: and rows", x.met(0), 3);
        x.ring(1, 5);
        due("23: neither", x.met(1), 0);
        x.ring(1, 7);
        due("23: neither", x.met(1), 0);
        x.ring(1, 8);
        due("23: even ring", x.met(1), 1);
        x.net(2, 2);
        Check.row(x, 2, 0, 1);
        Check.row(x, 2, 1, 0, 1);
        Check.row(x, 2, -1, 2, 1);
        due("23: bound 5 is too high", x.met(2), 1);
        Check.row(x, 2, -1, 1, 1);
        due("23: bound 2", x.met(2), 3);
        fourByRows(x, 3);
        due("23: stand", x.stands(3), NONE);
        due("23: bound 4", x.bound(3, 0), 4);
        due("23: largest", x.most(3, 1), 4);
        due("23: heaps", x.heaps(3), 5);
        due("23: by rows alone", x.met(3), 2);
        due("23: no such", x.met(8), RANGE);
        due("23: no such", x.met(-1), RANGE);
        for (int far : FAR) {
            due("23: far", x.met(far), RANGE);
        }
    }

    private static void came() {
        NeverMistaken x = new NeverMistaken();
        due("24: not told", Check.read(x, 0, "a"), STATE);
        Check.tell(x, 0, "ab;bc;cd;da");
        due("24: no code yet", Check.read(x, 0, "a"), STATE);
        due("24: the tape is read all the same", x.count(0), 0);
        x.most(0, 2);
        due("24: made by 10", Check.read(x, 0, " c\nd "), 1);
        due("24: the tape is read", x.count(0), 0);
        due("24: which", x.sent(), 10);
        due("24: too few", Check.read(x, 0, "c"), NONE);
        due("24: too many", Check.read(x, 0, "cdc"), NONE);
        due("24: far too many", Check.read(x, 0, "cdcdcdcdcdcd"), NONE);
        due("24: none", Check.read(x, 0, ""), NONE);
        due("24: another byte", Check.read(x, 0, "c;d"), NONE);
        due("24: another byte", Check.read(x, 0, "cdy"), NONE);
        due("24: then too the tape is read", x.count(0), 0);
        due("24: a sign that never comes", Check.read(x, 0, "cx"), 0);
        Check.tape(x, "cd");
        due("24: no such line", x.came(8), RANGE);
        due("24: then too the tape is empty", x.count(0), 0);
        x.feed(0, 0, 0, 0, 0);
        due("24: no such line", x.came(-1), RANGE);
        due("24: the next bytes come first", x.feed(0, 0, 0, 0, 0), 20);
        for (int far : FAR) {
            Check.tape(x, "cd");
            due("24: far", x.came(far), RANGE);
            due("24: far, the tape is empty", x.count(0), 0);
        }
        x.most(0, 4);
        due("24: FULL is no number", Check.read(x, 0, "cd"), 1);
        Check.tell(x, 0, "ab;;");
        due("24: a fault is not told anew", Check.read(x, 0, "cd"), 1);
        Check.tell(x, 1, "ab;bc;cd;da");
        due("24: another line's", Check.read(x, 1, "cd"), STATE);
        x.most(1, 1);
        due("24: not the latest", Check.read(x, 0, "cd"), STATE);
        due("24: the latest", Check.read(x, 1, "d"), 1);
        x.row(1, 0, 0, 1);
        x.either(1, 1, 2);
        due("24: the same still", Check.read(x, 1, "d"), 1);
        Check.tell(x, 1, "ab;bc;cd;da");
        due("24: told anew", Check.read(x, 1, "d"), STATE);
        x.most(1, 1);
        x.net(1, 4);
        due("24: not told", Check.read(x, 1, "d"), STATE);
        Check.tell(x, 1, "ab;bc;cd;da");
        due("24: told anew", Check.read(x, 1, "d"), STATE);
        Check.tell(x, 2, "a;b;bx");
        x.most(2, 3);
        due("24: the first sign is of the highest letter", Check.read(x, 2, "abb"), 1);
        due("24: which", x.sent(), 4);
        due("24: not every row can come", Check.read(x, 2, "abx"), 0);
    }

    private static void sent() {
        NeverMistaken x = new NeverMistaken();
        due("25: ahead of any", x.sent(), NONE);
        Check.tell(x, 0, "a;b;bc");
        x.most(0, 1);
        Check.read(x, 0, "c");
        due("25: none could", x.sent(), NONE);
        Check.read(x, 0, "b");
        due("25: 1", x.sent(), 1);
        Check.read(x, 0, "c");
        Check.read(x, 0, "?");
        Check.read(x, 3, "a");
        x.came(9);
        x.net(0, 2);
        x.most(0, 1);
        due("25: stays", x.sent(), 1);
        Check.tell(x, 0, "a");
        x.most(0, 6);
        Check.read(x, 0, "aaa aaa");
        due("25: the latest", x.sent(), 0);
    }

    private static void list() {
        NeverMistaken x = new NeverMistaken();
        due("26: a net", x.list(0, 1), STATE);
        x.ring(0, 20);
        due("26: a ring", x.list(0, 1), STATE);
        due("26: no such list", x.list(0, 0), RANGE);
        due("26: no such list", x.list(0, 25), RANGE);
        due("26: no such line", x.list(8, 1), RANGE);
        due("26: no such line", x.list(-1, 1), RANGE);
        Check.tell(x, 1, "ab;bc;ca;a;b;c");
        due("26: of 1", x.list(1, 1), 3);
        due("27: of 1", x.listed(), 0b111000);
        due("26: of 2", x.list(1, 2), 4);
        due("27: of 2", x.listed(), 0b011110);
        due("26: of 3", x.list(1, 3), 6);
        due("27: of 3", x.listed(), 0b111111);
        due("26: of 24", x.list(1, 24), 6);
        Check.tell(x, 2, "a;ab;abc;abcd;e");
        due("26: of 1", x.list(2, 1), 2);
        due("27: the least set", x.listed(), 0b10001);
        Check.tell(x, 3, "x;x;x;x;x;x;x;x;x;x;x;x;x;x;x;x");
        for (int l = 1; l <= 24; l++) {
            due("26: of " + l, x.list(3, l), Math.min(l, 16));
            due("27: of " + l, x.listed(), (1 << Math.min(l, 16)) - 1);
        }
        Check.tell(x, 4, "a;b;c;d;e;f;g;h;i;j;k;l;m;n;o;p;q");
        due("26: 17 letters", x.list(4, 1), FULL);
        for (int far : FAR) {
            due("26: far", x.list(far, 1), RANGE);
            due("26: far", x.list(1, far), RANGE);
        }
    }

    private static void listed() {
        NeverMistaken x = new NeverMistaken();
        due("27: ahead of any", x.listed(), NONE);
        x.list(0, 1);
        x.list(9, 1);
        due("27: none was told", x.listed(), NONE);
        Check.tell(x, 0, "a;a;b");
        x.list(0, 1);
        due("27: told", x.listed(), 5);
        x.list(0, 0);
        x.list(1, 1);
        x.net(0, 1);
        due("27: stays", x.listed(), 5);
    }

    private static void count() {
        NeverMistaken x = new NeverMistaken();
        due("28: tape", x.count(0), 0);
        due("28: none yet", x.count(1), NONE);
        due("28: none yet", x.count(2), NONE);
        due("28: none yet", x.count(3), NONE);
        x.most(0, 9);
        due("28: RANGE tells none", x.count(3), NONE);
        x.feed(0, 0, 0, 0, 0);
        due("28: tape", x.count(0), 20);
        x.ring(6, 5);
        x.most(6, 2);
        x.most(6, 3);
        x.most(9, 1);
        x.net(6, 1);
        x.best(6);
        due("28: words", x.count(1), 5);
        due("28: length", x.count(2), 2);
        due("28: line", x.count(3), 6);
        due("28: others", x.count(4), NONE);
        due("28: others", x.count(-1), NONE);
        for (int far : FAR) {
            due("28: far", x.count(far), NONE);
        }
    }
}
