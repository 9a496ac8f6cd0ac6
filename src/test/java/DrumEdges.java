/** DRUMS, TEETH, WHEELS, SHIFT, COUNTERS, REACH, BELL: what they are at first, at least and at most. */
final class DrumEdges extends Edges {
    DrumEdges(Document document, Check check) {
        super(document, check);
    }

    @Override
    void run() {
        aNewObject();
        drums();
        digits();
        teeth();
        gives();
        wheels();
        value();
        shift();
        counters();
        reach();
        bell();
        setting();
        inputting();
        shifting();
        reaching();
        wearing();
        clearing();
        laying();
        tellingDrums();
        tellingWheels();
        tellingCounters();
        counting();
    }

    private void aNewObject() {
        sentence("`DrumCrank()`: As told.");
        long[] row = kept(x);
        for (int i = 0; i < row.length; i++) {
            due("number " + i + " of a new object", row[i], i == 4 ? 12 : 0);
        }
        same("told of a new object", toldOf(x), new long[5]);
        due("back() of a new object", x.back(), NO);
        due("does() of a new object", x.does(), -10);
    }

    private void drums() {
        sentence("1 DRUMS 0 to 5 (0 the lowest place), each set to a DIGIT (0 ..");
        for (int d = 0; d <= 5; d++) {
            anew();
            due("sets(" + d + ", 1)", x.sets(d, 1), 0);
            due("count(0), DRUM " + d, x.count(0), ten(d));
            due("sets(" + d + ", 0)", x.sets(d, 0), 1);
            due("count(0)", x.count(0), 0);
        }
        range("sets(d, 0)", 0, 5, (y, d) -> y.sets(d, 0));
        refused("sets(0, -1)", BAD, y -> y.sets(0, -1));
    }

    private void digits() {
        sentence("9; 0 at first)");
        for (int d = 0; d <= 5; d++) {
            due("drum(" + d + ", 0) at first", x.drum(d, 0), 0);
            due("sets(" + d + ", 9)", x.sets(d, 9), 0);
            due("sets(" + d + ", 10)", x.sets(d, 10), BAD);
            due("drum(" + d + ", 0)", x.drum(d, 0), 9);
        }
    }

    private void teeth() {
        sentence("with TEETH 1 to 9, whole (at first) or WORN");
        for (int d = 0; d <= 5; d++) {
            due("drum(" + d + ", 2) at first", x.drum(d, 2), 0);
            due("wears(" + d + ", 0)", x.wears(d, 0), BAD);
            due("wears(" + d + ", 10)", x.wears(d, 10), BAD);
            due("drum(" + d + ", 2), nothing WORN", x.drum(d, 2), 0);
            due("wears(" + d + ", 1)", x.wears(d, 1), 1);
            due("wears(" + d + ", 9)", x.wears(d, 9), 2);
            due("drum(" + d + ", 2)", x.drum(d, 2), (1 << 1) + (1 << 9));
        }
    }

    private void gives() {
        sentence("it GIVES as many as there are whole TEETH with numbers of its DIGIT at most");
        for (int d = 0; d <= 5; d++) {
            for (int n = 0; n <= 9; n++) {
                anew();
                x.sets(d, n);
                due("DIGIT " + n + ", all whole", x.drum(d, 1), n);
                for (int t = 1; t <= 9; t++) {
                    x.wears(d, t);
                    due("DIGIT " + n + ", TOOTH " + t + " WORN", x.drum(d, 1), t <= n ? n - 1 : n);
                    x.wears(d, t);
                }
                for (int t = 1; t <= 9; t++) {
                    x.wears(d, t);
                    due("DIGIT " + n + ", TEETH 1 to " + t + " WORN", x.drum(d, 1), Math.max(0, n - t));
                }
            }
        }
    }

    private void wheels() {
        sentence("WHEELS 0 to 11, each 0 to 9 (0 at first)");
        for (int k = 0; k <= 11; k++) {
            due("wheel(" + k + ") at first", x.wheel(k), 0);
        }
        x.lays(MOST_VALUE);
        for (int k = 0; k <= 11; k++) {
            due("wheel(" + k + ") at most", x.wheel(k), 9);
        }
        x.input(999999);
        x.ups(1);
        x.shifts(6);
        x.downs(1);
        for (int k = 0; k <= 11; k++) {
            due("wheel(" + k + ") is 0 to 9", x.wheel(k) >= 0 && x.wheel(k) <= 9 ? 1 : 0, 1);
        }
    }

    private void value() {
        sentence("VALUE: WHEEL k times 10 to the k, all together");
        for (int k = 0; k <= 11; k++) {
            x.lays(7 * ten(k));
            due("wheel(" + k + ")", x.wheel(k), 7);
            due("value(), WHEEL " + k + " alone", x.value(), 7 * ten(k));
        }
        x.lays(MOST_VALUE);
        due("value() at most", x.value(), MOST_VALUE);
        sentence("`long value()`: VALUE.");
        due("value() at first", x.value(), 0);
        x.lays(123456789012L);
        due("value()", x.value(), 123456789012L);
        tellsOnly("value()", y -> y.value());
    }

    private void shift() {
        sentence("SHIFT s (0 .. 6; 0)");
        due("count(3) at first", x.count(3), 0);
        due("shifts(6)", x.shifts(6), 0);
        due("shifts(7)", x.shifts(7), BAD);
        due("shifts(0)", x.shifts(0), 6);
        due("shifts(-1)", x.shifts(-1), BAD);
        due("count(3)", x.count(3), 0);
    }

    private void counters() {
        sentence("COUNTERS 0 to 6, each 0 to 9 (0)");
        for (int k = 0; k <= 6; k++) {
            due("counter(" + k + ") at first", x.counter(k), 0);
            x.shifts(k);
            x.ups(9);
            due("counter(" + k + ") at most", x.counter(k), 9);
            due("count(2)", x.count(2), ten(k + 1) - 1);
        }
        for (int k = 0; k <= 6; k++) {
            x.shifts(k);
            x.ups(1);
            due("counter(" + k + ") at least", x.counter(k), 0);
        }
    }

    private void reach() {
        sentence("REACH c (0 .. 12; 12)");
        due("count(4) at first", x.count(4), 12);
        due("reaches(13)", x.reaches(13), BAD);
        due("reaches(0)", x.reaches(0), 12);
        due("reaches(-1)", x.reaches(-1), BAD);
        due("reaches(12)", x.reaches(12), 0);
        due("count(4)", x.count(4), 12);
    }

    private void bell() {
        sentence("BELL: how often it rang (0)");
        due("count(5) at first", x.count(5), 0);
        x.input(1);
        x.downs(1);
        due("count(5), rung down", x.count(5), 1);
        x.ups(1);
        due("count(5), rung up", x.count(5), 2);
        x.lays(MOST_VALUE);
        x.clears();
        due("count(5), nothing rung by lays and clears", x.count(5), 2);
    }

    private void setting() {
        sentence("`int sets(int d, int n)`: DRUM d is set to n: what it was. S. BAD.");
        for (int d = 0; d <= 5; d++) {
            due("sets(" + d + ", 0)", x.sets(d, 0), 0);
            due("sets(" + d + ", 9)", x.sets(d, 9), 0);
            due("sets(" + d + ", " + d + ")", x.sets(d, d), 9);
        }
        due("count(0)", x.count(0), 543210);
        range("sets(d, 1)", 0, 5, (y, d) -> y.sets(d, 1));
        range("sets(5, n)", 0, 9, (y, n) -> y.sets(5, n));
        refused("sets(6, 10)", BAD, y -> y.sets(6, 10));
        leavesState("sets(5, 9)", y -> y.sets(5, 9));
        leavesState("sets(0, 0)", y -> y.sets(0, 0));
    }

    private void inputting() {
        sentence("`int input(int v)`: All DRUMS are set by the figures of v (0 .. 999999):"
                + " the number they told ahead. S. BAD.");
        due("input(0)", x.input(0), 0);
        due("input(999999)", x.input(999999), 0);
        due("input(100000)", x.input(100000), 999999);
        x.wears(5, 1);
        due("input(1), a TOOTH WORN", x.input(1), 100000);
        for (int d = 0; d <= 5; d++) {
            due("drum(" + d + ", 0)", x.drum(d, 0), d == 0 ? 1 : 0);
        }
        range("input(v)", 0, 999999, (y, v) -> y.input(v));
        leavesState("input(999999)", y -> y.input(999999));
        leavesState("input(405060), as it is", y -> y.input(405060));
    }

    private void shifting() {
        sentence("`int shifts(int n)`: SHIFT becomes n: what it was. S. BAD.");
        int was = 0;
        for (int n : new int[] {0, 6, 6, 1, 0}) {
            due("shifts(" + n + ")", x.shifts(n), was);
            due("count(3)", x.count(3), n);
            was = n;
        }
        range("shifts(n)", 0, 6, (y, n) -> y.shifts(n));
        leavesState("shifts(6)", y -> y.shifts(6));
        leavesState("shifts(3), as it is", y -> y.shifts(3));
    }

    private void reaching() {
        sentence("`int reaches(int n)`: REACH becomes n: what it was. S. BAD.");
        int was = 12;
        for (int n : new int[] {12, 0, 0, 11, 12}) {
            due("reaches(" + n + ")", x.reaches(n), was);
            due("count(4)", x.count(4), n);
            was = n;
        }
        range("reaches(n)", 0, 12, (y, n) -> y.reaches(n));
        leavesState("reaches(0)", y -> y.reaches(0));
        leavesState("reaches(9), as it is", y -> y.reaches(9));
    }

    private void wearing() {
        sentence("`int wears(int d, int t)`: TOOTH t (1 .. 9) of DRUM d is WORN, if it was whole, else whole:"
                + " how many of the DRUM are WORN then. S. BAD.");
        for (int d = 0; d <= 5; d += 5) {
            for (int t = 1; t <= 9; t++) {
                due("wears(" + d + ", " + t + ")", x.wears(d, t), t);
            }
            due("drum(" + d + ", 2), all WORN", x.drum(d, 2), 1022);
            for (int t = 1; t <= 9; t++) {
                due("wears(" + d + ", " + t + "), whole again", x.wears(d, t), 9 - t);
            }
            due("drum(" + d + ", 2), all whole", x.drum(d, 2), 0);
        }
        range("wears(d, 1)", 0, 5, (y, d) -> y.wears(d, 1));
        range("wears(5, t)", 1, 9, (y, t) -> y.wears(5, t));
        refused("wears(0, 33), as a shift of bits goes round", BAD, y -> y.wears(0, 33));
        leavesState("wears(5, 9)", y -> y.wears(5, 9));
        leavesState("wears(3, 2), whole again", y -> y.wears(3, 2));
    }

    private void clearing() {
        sentence("`int clears()`: WHEELS, COUNTERS become 0: how many WHEELS were not 0. S.");
        due("clears() of nothing", x.clears(), 0);
        x.lays(MOST_VALUE);
        due("clears() of all", x.clears(), 12);
        x.lays(100000000001L);
        due("clears() of the first and the last", x.clears(), 2);
        x.ups(1);
        due("counter(0)", x.counter(0), 1);
        due("clears(), COUNTERS alone", x.clears(), 0);
        due("counter(0)", x.counter(0), 0);
        DrumCrank y = busy();
        long[] stays = kept(y);
        y.clears();
        long[] row = kept(y);
        for (int i = 0; i < stays.length; i++) {
            boolean cleared = i == 2 || i >= 26;
            due("number " + i + " behind clears()", row[i], cleared ? 0 : stays[i]);
        }
        leavesState("clears()", z -> z.clears());
        x.clears();
        due("told(4), nothing to clear", x.told(4), 5);
    }

    private void laying() {
        sentence("`int lays(long v)`: WHEELS become the figures of v (0 .. 999999999999): how many became others."
                + " S. BAD.");
        due("lays(0), as it is", x.lays(0), 0);
        due("lays(999999999999)", x.lays(MOST_VALUE), 12);
        due("lays(999999999999), as it is", x.lays(MOST_VALUE), 0);
        due("lays(899999999998), the first and the last", x.lays(899999999998L), 2);
        due("lays(0)", x.lays(0), 12);
        due("lays(4294967296), beyond an int", x.lays(4294967296L), 10);
        due("value()", x.value(), 4294967296L);
        x.ups(3);
        x.lays(0);
        due("counter(0) stays", x.counter(0), 3);
        rangeOfValue("lays(v)", (y, v) -> y.lays(v));
        leavesState("lays(1)", y -> y.lays(1));
        leavesState("lays(value()), as it is", y -> y.lays(y.value()));
    }

    private void tellingDrums() {
        sentence("`int drum(int d, int what)`: DIGIT of DRUM d (what 0), what it GIVES (1), WORN TEETH,"
                + " TOOTH t as bit t (2). BAD.");
        for (int d = 0; d <= 5; d++) {
            anew();
            for (int t = 1; t <= 9; t++) {
                x.wears(d, t);
                due("drum(" + d + ", 2), TOOTH " + t, x.drum(d, 2), 1 << t);
                x.wears(d, t);
            }
            x.sets(d, 9);
            x.wears(d, 9);
            due("drum(" + d + ", 0)", x.drum(d, 0), 9);
            due("drum(" + d + ", 1)", x.drum(d, 1), 8);
        }
        range("drum(d, 0)", 0, 5, (y, d) -> y.drum(d, 0));
        range("drum(d, 2)", 0, 5, (y, d) -> y.drum(d, 2));
        range("drum(5, what)", 0, 2, (y, what) -> y.drum(5, what));
        tellsOnly("drum(3, 1)", y -> y.drum(3, 1));
    }

    private void tellingWheels() {
        sentence("`int wheel(int k)`: WHEEL k. BAD.");
        x.lays(900000000001L);
        due("wheel(0)", x.wheel(0), 1);
        due("wheel(10)", x.wheel(10), 0);
        due("wheel(11)", x.wheel(11), 9);
        range("wheel(k)", 0, 11, (y, k) -> y.wheel(k));
        tellsOnly("wheel(11)", y -> y.wheel(11));
    }

    private void tellingCounters() {
        sentence("`int counter(int k)`: COUNTER k. BAD.");
        x.shifts(6);
        x.ups(4);
        x.shifts(0);
        x.downs(1);
        due("counter(0)", x.counter(0), 9);
        due("counter(5)", x.counter(5), 0);
        due("counter(6)", x.counter(6), 4);
        range("counter(k)", 0, 6, (y, k) -> y.counter(k));
        tellsOnly("counter(6)", y -> y.counter(6));
    }

    private void counting() {
        sentence("`int count(int what)`: The number that the DRUMS are set to (what 0), that they GIVE"
                + " (1: each what it GIVES at its place), that the COUNTERS show (2), SHIFT (3), REACH (4), BELL (5),"
                + " TURNS so far (6), WORN TEETH of all (7). BAD.");
        x.input(999999);
        for (int d = 0; d <= 5; d++) {
            for (int t = 1; t <= d + 1; t++) {
                x.wears(d, t);
            }
        }
        due("count(0)", x.count(0), 999999);
        due("count(1)", x.count(1), 345678);
        due("count(7)", x.count(7), 21);
        for (int s = 0; s <= 6; s++) {
            x.shifts(s);
            x.downs(1);
        }
        due("count(2) at most", x.count(2), 9999999);
        due("count(3)", x.count(3), 6);
        x.reaches(0);
        due("count(4)", x.count(4), 0);
        due("count(5)", x.count(5), 1);
        due("count(6)", x.count(6), 7);
        for (int d = 0; d <= 5; d++) {
            for (int t = d + 2; t <= 9; t++) {
                x.wears(d, t);
            }
        }
        due("count(1), all WORN", x.count(1), 0);
        due("count(7), all WORN", x.count(7), 54);
        range("count(what)", 0, 7, (y, what) -> y.count(what));
        tellsOnly("count(1)", y -> y.count(1));
    }
}
