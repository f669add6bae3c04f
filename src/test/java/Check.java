/** Counts answers that are not as due, and feeds texts to a tape. */
final class Check {
    private final String name;
    private int asked = 0;
    private int wrong = 0;

    Check(String name) {
        this.name = name;
    }

    void due(String what, long got, long want) {
        asked++;
        if (got != want) {
            wrong++;
            if (wrong <= 40) {
                System.out.println(name + ": " + what + " answered " + got + ", due is " + want);
            }
        }
    }

    void holds(String what, boolean holds) {
        due(what, holds ? 1 : 0, 1);
    }

    boolean isClean() {
        return wrong == 0;
    }

    void close() {
        System.out.println(name + ": " + asked + " answers looked at, " + wrong + " not as due");
        if (wrong != 0 || asked == 0) {
            System.exit(1);
        }
    }

    /** The five ints of a feed() that has these bytes from a place on, zeros behind the text. */
    static int[] ints(String text, int from) {
        int[] five = new int[5];
        for (int i = 0; i < 20; i++) {
            int b = from + i < text.length() ? text.charAt(from + i) & 255 : 0;
            five[i / 4] |= b << 24 - 8 * (i % 4);
        }
        return five;
    }

    /** Puts a text on an empty tape. */
    static void tape(NeverMistaken x, String text) {
        x.end(0);
        for (int from = 0; from < text.length(); from += 20) {
            int[] five = ints(text, from);
            x.feed(five[0], five[1], five[2], five[3], five[4]);
        }
        x.end(text.length());
    }

    static int tell(NeverMistaken x, int l, String text) {
        tape(x, text);
        return x.told(l);
    }

    static int read(NeverMistaken x, int l, String text) {
        tape(x, text);
        return x.came(l);
    }

    /** Line l is a net of so many letters with these pairs mistaken. */
    static void net(NeverMistaken x, int l, int letters, int... pairs) {
        x.net(l, letters);
        for (int i = 0; i + 1 < pairs.length; i += 2) {
            x.mistake(l, pairs[i], pairs[i + 1], true);
        }
    }

    /** The first numbers of a letter's row, or of the handle (-1). */
    static void row(NeverMistaken x, int l, int a, int... v) {
        for (int i = 0; i < v.length; i++) {
            x.row(l, a, i, v[i]);
        }
    }
}
