/** TURNS up and down: what goes round, how far a CARRY comes, and when the BELL rings. */
final class TurnEdges extends Edges {
    TurnEdges(Document document, Check check) {
        super(document, check);
    }

    @Override
    void run() {
        upByDrums();
        upAboveNine();
        lostBeyondReach();
        rippleUp();
        bellUp();
        counterUp();
        downBelowNull();
        nineBehindNull();
        downWithinReach();
        counterDown();
        drumsWithinWheels();
        ups();
        downs();
    }

    private static String at(int s, int c) {
        return " at SHIFT " + s + ", REACH " + c;
    }

    /** A new object with WHEELS v, DRUM 0 at 1, SHIFT s, REACH c. */
    private void oneAt(int s, int c, long v) {
        anew();
        x.input(1);
        x.shifts(s);
        x.reaches(c);
        x.lays(v);
    }

    private void upByDrums() {
        sentence("A TURN up: for DRUMS i rising: WHEEL i + s becomes what the DRUM GIVES more");
        for (int s = 0; s <= 6; s++) {
            anew();
            x.input(987654);
            x.wears(2, 6);
            x.shifts(s);
            due("ups(1) at SHIFT " + s, x.ups(1), 0);
            due("value()", x.value(), 987554 * ten(s));
        }
    }

    private void upAboveNine() {
        sentence("if that is above 9, 10 less, and a CARRY is due to the next WHEEL");
        int[][] cases = {{0, 9}, {9, 0}, {5, 4}, {1, 9}, {9, 1}, {5, 5}, {9, 9}};
        for (int s = 0; s <= 6; s++) {
            for (int i = 0; i <= 5; i++) {
                for (int[] both : cases) {
                    anew();
                    x.shifts(s);
                    x.sets(i, both[1]);
                    x.lays(both[0] * ten(i + s));
                    String call = "ups(1), DRUM " + i + " GIVES " + both[1] + " to " + both[0] + " at SHIFT " + s;
                    boolean rings = both[0] + both[1] > 9 && i + s == 11;
                    due(call, x.ups(1), rings ? 1 : 0);
                    due("value(), " + call, x.value(), (both[0] + both[1]) * ten(i + s) % ten(12));
                }
            }
        }
    }

    private void lostBeyondReach() {
        sentence("Then for WHEELS k rising from s on: if a CARRY is due to it: if k is above s + 5 + c, it is lost");
        for (int s = 0; s <= 6; s++) {
            for (int c = 0; c <= 12; c++) {
                int last = s + 5 + c;
                if (last <= 11) {
                    oneAt(s, c, ten(last) - ten(s));
                    x.ups(1);
                    due("the CARRY to WHEEL " + last + at(s, c), x.value(), ten(last));
                    oneAt(s, c, ten(last + 1) - ten(s));
                    due("BELL, the CARRY beyond WHEEL " + last + at(s, c), x.ups(1), 0);
                    due("the CARRY beyond WHEEL " + last + at(s, c), x.value(), 0);
                }
                oneAt(s, c, ten(12) - ten(s));
                x.ups(1);
                due("all 9" + at(s, c), x.value(), last + 1 <= 11 ? ten(12) - ten(last + 1) : 0);
            }
        }
        oneAt(3, 0, 999999999L);
        x.ups(1);
        due("WHEELS below s stay", x.value(), 999);
    }

    private void rippleUp() {
        sentence("else the WHEEL is 1 more; if that is 10, it becomes 0, a CARRY is due to the next one");
        x.input(1);
        for (int k = 1; k <= 11; k++) {
            x.lays(ten(k) - 1);
            x.ups(1);
            due("from WHEEL 0 up to WHEEL " + k, x.value(), ten(k));
            x.lays(9 * ten(k) - 1);
            x.ups(1);
            due("9 at WHEEL " + k + " goes no further", x.value(), 9 * ten(k));
        }
        x.input(99);
        x.lays(1);
        x.ups(1);
        due("a CARRY to a WHEEL that its DRUM made 9", x.value(), 100);
        x.lays(99);
        x.ups(1);
        due("a CARRY to a WHEEL that its DRUM brought round", x.value(), 198);
        x.input(999999);
        x.lays(1);
        x.ups(1);
        due("through all DRUMS", x.value(), 1000000);
    }

    private void bellUp() {
        sentence("A CARRY due to WHEEL 12: the BELL rings, if 12 is no more than s + 5 + c; else it is lost");
        for (int s = 0; s <= 6; s++) {
            for (int c = 0; c <= 12; c++) {
                int rings = 12 <= s + 5 + c ? 1 : 0;
                if (s + 5 + c >= 11) {
                    oneAt(s, c, MOST_VALUE);
                    due("ups(1)" + at(s, c), x.ups(1), rings);
                    due("count(5)" + at(s, c), x.count(5), rings);
                    due("value()" + at(s, c), x.value(), ten(s) - 1);
                    oneAt(s, c, ten(s) - 1);
                    due("downs(1)" + at(s, c), x.downs(1), rings);
                    due("count(5), down" + at(s, c), x.count(5), rings);
                    due("value(), down" + at(s, c), x.value(), MOST_VALUE);
                }
            }
        }
        for (int c = 0; c <= 1; c++) {
            anew();
            x.input(100000);
            x.shifts(6);
            x.reaches(c);
            x.lays(900000000000L);
            due("ups(1), the CARRY by DRUM 5 itself" + at(6, c), x.ups(1), c);
            due("downs(1), the CARRY by DRUM 5 itself" + at(6, c), x.downs(1), c);
            due("count(5)", x.count(5), 2 * c);
        }
        oneAt(0, 12, 899999999999L);
        due("ups(1), no CARRY to WHEEL 12", x.ups(1), 0);
        due("value()", x.value(), 900000000000L);
    }

    private void counterUp() {
        sentence("COUNTER s is 1 more (0 behind 9)");
        for (int s = 0; s <= 6; s++) {
            anew();
            x.shifts(s);
            for (int n = 1; n <= 11; n++) {
                x.ups(1);
                due("count(2) behind " + n + " TURNS at SHIFT " + s, x.count(2), n % 10 * ten(s));
            }
        }
    }

    private void downBelowNull() {
        sentence("A TURN down is likewise with less in place of more: below 0, 10 more");
        int[][] cases = {{9, 9}, {0, 0}, {5, 5}, {9, 0}, {0, 1}, {4, 5}, {0, 9}, {8, 9}};
        for (int s = 0; s <= 6; s++) {
            for (int i = 0; i <= 5; i++) {
                for (int[] both : cases) {
                    anew();
                    x.shifts(s);
                    x.sets(i, both[1]);
                    int k = i + s;
                    long next = k < 11 ? ten(k + 1) : 0;
                    x.lays(both[0] * ten(k) + next);
                    String call = "downs(1), DRUM " + i + " takes " + both[1] + " from " + both[0] + " at SHIFT " + s;
                    due(call, x.downs(1), both[0] < both[1] && k == 11 ? 1 : 0);
                    long left = (both[0] - both[1]) * ten(k) + next;
                    due("value(), " + call, x.value(), left < 0 ? left + ten(12) : left);
                }
            }
        }
    }

    private void nineBehindNull() {
        sentence("below 0, 10 more; 9 behind 0; ");
        x.input(1);
        for (int k = 1; k <= 11; k++) {
            x.lays(ten(k));
            x.downs(1);
            due("from WHEEL " + k + " down to WHEEL 0", x.value(), ten(k) - 1);
        }
        x.input(99);
        x.lays(198);
        x.downs(1);
        due("a CARRY to a WHEEL with more than its DRUM takes", x.value(), 99);
        x.lays(108);
        x.downs(1);
        due("a CARRY to a WHEEL that its DRUM brought round", x.value(), 9);
        x.lays(190);
        x.downs(1);
        due("a CARRY to a WHEEL that its DRUM made 0", x.value(), 91);
    }

    private void downWithinReach() {
        sentence("A TURN down is likewise");
        for (int s = 0; s <= 6; s++) {
            for (int c = 0; c <= 12; c++) {
                int last = s + 5 + c;
                oneAt(s, c, 0);
                x.downs(1);
                due("all 0, down" + at(s, c), x.value(), ten(Math.min(12, last + 1)) - ten(s));
                if (last <= 11) {
                    oneAt(s, c, ten(last));
                    x.downs(1);
                    due("the CARRY to WHEEL " + last + ", down" + at(s, c), x.value(), ten(last) - ten(s));
                }
                if (last <= 10) {
                    oneAt(s, c, ten(last + 1));
                    due("BELL, the CARRY beyond WHEEL " + last + ", down" + at(s, c), x.downs(1), 0);
                    due("the CARRY beyond WHEEL " + last + ", down" + at(s, c), x.value(),
                            2 * ten(last + 1) - ten(s));
                }
            }
        }
    }

    private void counterDown() {
        sentence("COUNTER s 1 less (9 behind 0)");
        for (int s = 0; s <= 6; s++) {
            anew();
            x.shifts(s);
            for (int n = 1; n <= 11; n++) {
                x.downs(1);
                due("count(2) behind " + n + " TURNS down at SHIFT " + s, x.count(2), (20 - n) % 10 * ten(s));
            }
        }
    }

    private void drumsWithinWheels() {
        sentence("(DRUMS never come beyond WHEEL 11.)");
        x.shifts(6);
        x.input(900000);
        due("ups(1)", x.ups(1), 0);
        due("wheel(11)", x.wheel(11), 9);
        x.input(999999);
        x.clears();
        due("ups(1), all DRUMS", x.ups(1), 0);
        due("value()", x.value(), 999999000000L);
        due("downs(1), all DRUMS", x.downs(1), 0);
        due("value()", x.value(), 0);
    }

    private void ups() {
        sentence("`int ups(int n)`: n TURNS up (1 .. 99): how often the BELL rang by them. S. BAD.");
        x.input(999999);
        x.shifts(6);
        due("ups(1)", x.ups(1), 0);
        due("ups(99)", x.ups(99), 99);
        due("count(6)", x.count(6), 100);
        due("value()", x.value(), 999900000000L);
        due("ups(1), the BELL by it alone", x.ups(1), 1);
        due("count(5)", x.count(5), 100);
        range("ups(n)", 1, 99, (y, n) -> y.ups(n));
        leavesState("ups(1)", y -> y.ups(1));
        leavesState("ups(99)", y -> y.ups(99));
    }

    private void downs() {
        sentence("`int downs(int n)`: n TURNS down (1 .. 99): likewise. S. BAD.");
        x.input(999999);
        x.shifts(6);
        due("downs(99)", x.downs(99), 99);
        due("value()", x.value(), 99000000L);
        due("downs(1), the BELL by it alone", x.downs(1), 1);
        due("count(5)", x.count(5), 100);
        due("count(6)", x.count(6), 100);
        x.lays(MOST_VALUE);
        due("downs(1), no BELL", x.downs(1), 0);
        range("downs(n)", 1, 99, (y, n) -> y.downs(n));
        leavesState("downs(1)", y -> y.downs(1));
        leavesState("downs(99)", y -> y.downs(99));
    }
}
