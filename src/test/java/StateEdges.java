/** STATES to go back to, what is refused and what then counts, and the last call of an object. */
final class StateEdges extends Edges {
    StateEdges(Document document, Check check) {
        super(document, check);
    }

    @Override
    void run() {
        eachLeavesOne();
        backToAll();
        fiveAtMost();
        refusedChangesNothing();
        badFirst();
        doesCountsNothing();
        back();
        told();
        digest();
        callsAtMost();
    }

    private void eachLeavesOne() {
        sentence("STATES: each call told S, if it is not refused, leaves one, also if nothing becomes other by it");
        leavesOne("sets(0, 0)", y -> y.sets(0, 0));
        leavesOne("input(0)", y -> y.input(0));
        leavesOne("shifts(0)", y -> y.shifts(0));
        leavesOne("reaches(12)", y -> y.reaches(12));
        leavesOne("wears(0, 1)", y -> y.wears(0, 1));
        leavesOne("clears()", y -> y.clears());
        leavesOne("lays(0)", y -> y.lays(0));
        leavesOne("ups(1)", y -> y.ups(1));
        leavesOne("downs(1)", y -> y.downs(1));
        leavesOne("times(0, 0)", y -> y.times(0, 0));
        leavesOne("times(0, 1)", y -> y.times(0, 1));
        leavesOne("does() of 's0;'", y -> does(y, "s0;"));
        x.sets(0, 1);
        x.divides();
        due("told(4) behind divides()", x.told(4), 2);
        x.divides();
        due("told(4) behind divides() again", x.told(4), 3);
        refusedLeavesNone();
        othersLeaveNone();
    }

    private void leavesOne(String call, Call made) {
        DrumCrank y = new DrumCrank();
        made.on(y);
        due("told(4) behind " + call, y.told(4), 1);
        due("back() behind " + call, y.back(), 0);
        due("back() again", y.back(), NO);
    }

    private void refusedLeavesNone() {
        anew();
        x.sets(6, 0);
        x.input(-1);
        x.shifts(7);
        x.reaches(13);
        x.wears(0, 0);
        x.lays(-1);
        x.ups(0);
        x.downs(100);
        x.times(0, 2);
        x.divides();
        does(x, "s7;");
        does(x, "x");
        due("told(4) behind refused calls", x.told(4), 0);
        due("told(0)", x.told(0), 9);
        due("told(1)", x.told(1), 1);
    }

    private void othersLeaveNone() {
        anew();
        x.turns(1, 0);
        x.drum(0, 0);
        x.wheel(0);
        x.value();
        x.counter(0);
        x.count(0);
        x.trial(1);
        x.explains(0, 1, 0);
        x.type('c');
        x.wipes();
        x.told(0);
        x.digest();
        due("told(4) behind calls not told S", x.told(4), 0);
    }

    private void backToAll() {
        sentence("to go back to (all but THE TEXT and how often refused)");
        DrumCrank y = busy();
        long[] ahead = kept(y);
        due("does()", does(y, "i0 9;i5 1;w3 1;w0 9;s6;r1;u98;s0;d97;"), 9);
        y.wipes();
        type(y, "xyz");
        y.told(5);
        y.told(-1);
        y.input(0);
        y.divides();
        type(y, "x".repeat(118));
        long[] told = toldOf(y);
        y.back();
        y.back();
        same("all behind back()", kept(y), ahead);
        told[4] -= 2;
        same("THE TEXT and how often refused", toldOf(y), told);
        due("told(3)", y.told(3), 120);
        due("told(0)", y.told(0), 4);
        due("told(1)", y.told(1), 1);
        due("told(2)", y.told(2), 1);
        due("does(), THE TEXT as typed since", y.does(), -10);
    }

    private void fiveAtMost() {
        sentence("5 at most, older ones lost");
        for (int made = 1; made <= 23; made++) {
            anew();
            for (int n = 1; n <= made; n++) {
                x.input(n);
                due("told(4) behind " + n, x.told(4), Math.min(n, 5));
            }
            int kept = Math.min(made, 5);
            for (int n = 1; n <= kept; n++) {
                due("back() of " + made, x.back(), kept - n);
                due("count(0)", x.count(0), made - n);
            }
            due("back(), the older ones lost", x.back(), NO);
            due("count(0)", x.count(0), made - kept);
        }
        anew();
        for (int n = 1; n <= 6; n++) {
            x.input(n);
        }
        x.back();
        x.back();
        x.input(7);
        due("told(4), two back and one more", x.told(4), 4);
        int[] ahead = {4, 3, 2, 1};
        for (int n : ahead) {
            x.back();
            due("count(0)", x.count(0), n);
        }
        due("back()", x.back(), NO);
    }

    private void refusedChangesNothing() {
        sentence("Refused (any call, getters, too), changing nothing but how often");
        refused("sets(6, 0)", BAD, y -> y.sets(6, 0));
        refused("input(1000000)", BAD, y -> y.input(1000000));
        refused("shifts(7)", BAD, y -> y.shifts(7));
        refused("reaches(13)", BAD, y -> y.reaches(13));
        refused("wears(0, 10)", BAD, y -> y.wears(0, 10));
        refused("lays(1000000000000)", BAD, y -> y.lays(MOST_VALUE + 1));
        refused("ups(100)", BAD, y -> y.ups(100));
        refused("downs(100)", BAD, y -> y.downs(100));
        refused("times(1000000, 1)", BAD, y -> y.times(1000000, 1));
        refused("turns(1000000, 1)", BAD, y -> y.turns(1000000, 1));
        refused("drum(0, 3)", BAD, y -> y.drum(0, 3));
        refused("wheel(12)", BAD, y -> y.wheel(12));
        refused("counter(7)", BAD, y -> y.counter(7));
        refused("count(8)", BAD, y -> y.count(8));
        refused("trial(100)", BAD, y -> y.trial(100));
        refused("explains(0, 1, 3)", BAD, y -> y.explains(0, 1, 3));
        refused("type(128)", BAD, y -> y.type(128));
        refused("told(5)", BAD, y -> y.told(5));
        DrumCrank y = busy();
        does(y, "i1 0;i3 0;i5 0;i0 1;c;s6;u20;s2;");
        long[] ahead = kept(y);
        due("divides(), 20 TURNS without a BELL", y.divides(), NO);
        same("behind divides()", kept(y), ahead);
        due("told(4) behind divides()", y.told(4), 3);
        due("told(1) behind divides()", y.told(1), 1);
    }

    private void badFirst() {
        sentence("the first of: BAD -2 a number is not as told; NO -3, FULL -4 as told");
        due("BAD", x.wheel(12), -2);
        due("NO by back()", x.back(), -3);
        due("NO by divides()", x.divides(), -3);
        type(x, " ".repeat(120));
        due("FULL", x.type(0), -4);
        due("type(128) of 120: BAD ahead of FULL", x.type(128), -2);
        due("type(-1) of 120: BAD ahead of FULL", x.type(-1), -2);
        same("told", toldOf(x), new long[] {3, 2, 1, 120, 0});
    }

    private void doesCountsNothing() {
        sentence("By does() nothing counts (by type() as by any call).");
        due("a refused ORDER, BAD", does(x, "s7;"), -1000);
        due("a refused ORDER, NO", does(x, "v;"), -1000);
        due("a FAULT", does(x, "x"), -10);
        due("an empty TEXT", does(x, ""), -10);
        same("told behind does()", toldOf(x), new long[5]);
        x.type(128);
        x.type(-1);
        type(x, "c".repeat(121));
        same("told behind type()", toldOf(x), new long[] {2, 0, 1, 120, 0});
    }

    private void back() {
        sentence("`int back()`: A STATE back: how many can be yet. NO: none.");
        due("back() of none", x.back(), NO);
        for (int n = 1; n <= 5; n++) {
            x.shifts(n);
        }
        for (int n = 4; n >= 0; n--) {
            due("back()", x.back(), n);
            due("count(3)", x.count(3), n);
            due("told(4), back() leaves none itself", x.told(4), n);
        }
        due("back() of none", x.back(), NO);
        due("told(1)", x.told(1), 2);
        due("count(3) stays", x.count(3), 0);
    }

    private void told() {
        sentence("`int told(int what)`: How often refused: BAD (0), NO (1), FULL (2); bytes of THE TEXT (3),"
                + " STATES (4). BAD.");
        same("told at first", toldOf(x), new long[5]);
        for (int n = 1; n <= 3; n++) {
            x.told(5);
        }
        for (int n = 1; n <= 4; n++) {
            x.back();
        }
        type(x, "c".repeat(122));
        x.clears();
        same("told", toldOf(x), new long[] {3, 4, 2, 120, 1});
        range("told(what)", 0, 4, (y, what) -> y.told(what));
        tellsOnly("told(0)", y -> y.told(0));
    }

    private void digest() {
        sentence("`long digest()`: h = 2892; then h = 31 h + v for each v: told(0) to told(4); count(0) to count(7);"
                + " of each DRUM drum(0) to drum(2); WHEELS, COUNTERS, rising; value(); trial(9);"
                + " explains(value(), 3, 0).");
        digestOf("a new object", new DrumCrank());
        digestOf("a busy one", busy());
        x.back();
        x.input(6);
        x.wears(0, 6);
        x.ups(3);
        x.type(128);
        digestOf("an explained one, 6 TEETH", x);
        due("explains(value(), 3, 0)", x.explains(x.value(), 3, 0), 6);
        anew();
        x.input(999999);
        x.lays(MOST_VALUE);
        type(x, "x".repeat(121));
        digestOf("a full one", x);
        tellsOnly("digest()", y -> y.digest());
    }

    private void digestOf(String what, DrumCrank y) {
        long h = 2892;
        for (long v : toldOf(y)) {
            h = 31 * h + v;
        }
        for (long v : kept(y)) {
            h = 31 * h + v;
        }
        h = 31 * h + y.trial(9);
        h = 31 * h + y.explains(y.value(), 3, 0);
        due("digest() of " + what, y.digest(), h);
        due("digest() again", y.digest(), h);
    }

    private void callsAtMost() {
        sentence("An object is used for at most 512 calls after it has been made; what later calls answer is free.");
        x.input(1);
        for (int calls = 2; calls <= 511; calls++) {
            x.ups(99);
        }
        due("value(), call 512", x.value(), 510 * 99);
        anew();
        x.input(1);
        for (int calls = 2; calls <= 511; calls++) {
            x.ups(99);
        }
        due("count(6), call 512", x.count(6), 510 * 99);
        anew();
        for (int calls = 1; calls <= 511; calls++) {
            x.wheel(12);
        }
        due("told(0), call 512", x.told(0), 511);
    }
}
