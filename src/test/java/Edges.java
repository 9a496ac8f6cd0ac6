/** Ground for the tests of single sentences: each quotes its words and begins with a new object. */
abstract class Edges {
    static final int NONE = -1, BAD = -2, NO = -3, FULL = -4;
    static final long MOST_VALUE = 999999999999L;
    private static final int KEPT = 46;

    interface Call {
        long on(DrumCrank x);
    }

    interface OfInt {
        long on(DrumCrank x, int n);
    }

    interface OfLong {
        long on(DrumCrank x, long v);
    }

    private final Document document;
    private final Check check;
    private String words;
    DrumCrank x;

    Edges(Document document, Check check) {
        this.document = document;
        this.check = check;
    }

    abstract void run();

    void sentence(String quote) {
        words = quote;
        check.holds("a sentence of the document: '" + quote + "'", document.has(quote));
        anew();
    }

    void anew() {
        x = new DrumCrank();
    }

    void due(String call, long got, long want) {
        check.due("'" + words + "': " + call, got, want);
    }

    static long ten(int k) {
        long power = 1;
        for (int i = 0; i < k; i++) {
            power *= 10;
        }
        return power;
    }

    static void type(DrumCrank x, String text) {
        for (int p = 0; p < text.length(); p++) {
            x.type(text.charAt(p));
        }
    }

    static int does(DrumCrank x, String text) {
        x.wipes();
        type(x, text);
        return x.does();
    }

    /**
     * An object with nothing left as it was at first, and with room for three STATES more. It ends with three
     * calls taken back, so that a STATE copied too late or not at all is another one.
     */
    static DrumCrank busy() {
        DrumCrank x = new DrumCrank();
        x.wheel(12);
        x.lays(-1);
        x.input(405060);
        x.wears(3, 2);
        x.wears(0, 9);
        x.lays(987654321098L);
        x.shifts(3);
        x.reaches(9);
        x.ups(99);
        x.shifts(1);
        x.downs(2);
        x.sets(0, 5);
        x.back();
        x.back();
        x.back();
        type(x, "i0 1;u2;");
        return x;
    }

    /** All that a STATE holds. */
    static long[] kept(DrumCrank x) {
        long[] row = new long[KEPT];
        int i = 0;
        for (int what = 0; what < 8; what++) {
            row[i++] = x.count(what);
        }
        for (int d = 0; d < 18; d++) {
            row[i++] = x.drum(d / 3, d % 3);
        }
        for (int k = 0; k < 12; k++) {
            row[i++] = x.wheel(k);
        }
        for (int k = 0; k < 7; k++) {
            row[i++] = x.counter(k);
        }
        row[i] = x.value();
        return row;
    }

    static long[] toldOf(DrumCrank x) {
        return new long[] {x.told(0), x.told(1), x.told(2), x.told(3), x.told(4)};
    }

    void same(String what, long[] got, long[] want) {
        for (int i = 0; i < want.length; i++) {
            due(what + ", number " + i, got[i], want[i]);
        }
    }

    /** Both hold the same, and go back to the same. */
    void alike(String what, DrumCrank got, DrumCrank want) {
        same(what, kept(got), kept(want));
        due(what + ", then back()", got.back(), want.back());
        same(what + ", then back()", kept(got), kept(want));
    }

    /** A refused call changes nothing but how often. */
    void refused(String call, int why, Call made) {
        DrumCrank got = busy();
        due(call, made.on(got), why);
        DrumCrank want = busy();
        long[] told = toldOf(want);
        told[-2 - why]++;
        same("told behind " + call, toldOf(got), told);
        alike("behind " + call, got, want);
    }

    /** The number may be from least to most and nothing else, also not what a narrower type makes of it. */
    void range(String call, int least, int most, OfInt made) {
        int[] others = {least - 1, most + 1, Integer.MIN_VALUE, Integer.MAX_VALUE, -256 + least, 256 + least,
            -65536 + least, 65536 + least, (1 << 30) + least};
        for (int n : others) {
            if (n < least || n > most) {
                refused(call + " with " + n, BAD, y -> made.on(y, n));
            }
        }
        taken(call + " with " + least, y -> made.on(y, least));
        taken(call + " with " + most, y -> made.on(y, most));
    }

    void rangeOfValue(String call, OfLong made) {
        long[] others = {-1, MOST_VALUE + 1, Long.MIN_VALUE, Long.MAX_VALUE, -(1L << 32), 1L << 40, 1L << 62,
            Integer.MIN_VALUE};
        for (long v : others) {
            refused(call + " with " + v, BAD, y -> made.on(y, v));
        }
        for (long v : new long[] {0, MOST_VALUE, 1L << 31, 1L << 32}) {
            taken(call + " with " + v, y -> made.on(y, v));
        }
    }

    private void taken(String call, Call made) {
        DrumCrank got = busy();
        long[] told = toldOf(got);
        made.on(got);
        due("told(0) behind " + call, got.told(0), told[0]);
    }

    /** A call told S: one STATE more, and back() gives all back but THE TEXT and how often refused. */
    void leavesState(String call, Call made) {
        DrumCrank got = busy();
        long[] ahead = kept(got);
        long[] told = toldOf(got);
        made.on(got);
        due("told(4) behind " + call, got.told(4), told[4] + 1);
        due("told(0) behind " + call, got.told(0), told[0]);
        due("back() behind " + call, got.back(), told[4]);
        same("back() behind " + call, kept(got), ahead);
        same("told, back() behind " + call, toldOf(got), told);
    }

    /** A call that only tells: nothing is other behind it. */
    void tellsOnly(String call, Call made) {
        DrumCrank got = busy();
        made.on(got);
        DrumCrank want = busy();
        same("told behind " + call, toldOf(got), toldOf(want));
        alike("behind " + call, got, want);
    }
}
