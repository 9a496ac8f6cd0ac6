/** Products by shifts, the long way or the short one, and division: their least, their most, what is refused. */
final class ProductEdges extends Edges {
    private static final int LONG = 0, SHORT = 1;

    ProductEdges(Document document, Check check) {
        super(document, check);
    }

    @Override
    void run() {
        fromNull();
        longWay();
        downForSixToNine();
        noneForTen();
        upForTheOthers();
        seventhFigure();
        shiftBehind();
        times();
        turns();
        countersFromNull();
        downTillBell();
        oneUp();
        countersTheOtherWay();
        drumsGiveNull();
        noBell();
        divides();
    }

    private void fromNull() {
        sentence("2 TIMES n (0 .. 999999): WHEELS and COUNTERS 0");
        for (int k = LONG; k <= SHORT; k++) {
            anew();
            x.input(123456);
            for (int s = 0; s <= 6; s++) {
                x.shifts(s);
                x.downs(1);
            }
            x.lays(MOST_VALUE);
            due("times(0, " + k + ")", x.times(0, k), 0);
            due("value()", x.value(), 0);
            due("count(2)", x.count(2), 0);
            x.lays(MOST_VALUE);
            x.times(999999, k);
            due("value() of the most", x.value(), 123456L * 999999);
            due("times(-1, " + k + ")", x.times(-1, k), BAD);
            due("times(1000000, " + k + ")", x.times(1000000, k), BAD);
            due("value() stays", x.value(), 123456L * 999999);
        }
    }

    private void longWay() {
        sentence("then for its figures from the lowest on, SHIFT k at the k-th one: LONG (0): as many TURNS up as"
                + " the figure says");
        for (int place = 0; place <= 5; place++) {
            anew();
            x.input(999999);
            for (int figure = 0; figure <= 9; figure++) {
                int n = figure * (int) ten(place);
                due("times(" + n + ", 0)", x.times(n, LONG), figure);
                due("count(2)", x.count(2), n);
                due("value()", x.value(), 999999L * n);
                due("count(5), up alone", x.count(5), 0);
            }
        }
        anew();
        x.input(999999);
        x.reaches(0);
        due("times(99, 0), REACH 0", x.times(99, LONG), 18);
        due("value(), CARRIES lost at SHIFT 0, then at SHIFT 1", x.value(), 999901);
    }

    /** The COUNTERS tell the way as well: down behind 0 they show the figure, with 1 at the next one. */
    private void downForSixToNine() {
        sentence("SHORT (1): the figure, and 1 if one is due; if that is 6 to 9, 10 less it TURNS down,"
                + " 1 is due to the next figure");
        for (int place = 0; place <= 5; place++) {
            for (int figure = 6; figure <= 9; figure++) {
                shortWay(figure * (int) ten(place), 10 - figure + 1, (figure + 10) * ten(place), 2);
            }
        }
        for (int place = 0; place <= 4; place++) {
            for (int figure = 5; figure <= 8; figure++) {
                int n = (10 * figure + 6) * (int) ten(place);
                shortWay(n, 4 + 10 - figure - 1 + 1, (6 + 10 * (figure + 1) + 100) * ten(place), 2);
            }
        }
        anew();
        x.input(1);
        x.reaches(0);
        x.times(6, SHORT);
        due("times(6, 1), REACH 0: 4 down at SHIFT 0, then 1 up at SHIFT 1", x.value(), 1000006);
    }

    /** BELL: the first TURN down goes below 0, a later one up comes back. */
    private void shortWay(int n, int turns, long counters, int rings) {
        anew();
        x.input(654321);
        due("turns(" + n + ", 1)", x.turns(n, SHORT), turns);
        due("times(" + n + ", 1)", x.times(n, SHORT), turns);
        due("count(6), times(" + n + ", 1)", x.count(6), turns);
        due("count(2), times(" + n + ", 1)", x.count(2), counters);
        due("value(), times(" + n + ", 1)", x.value(), 654321L * n);
        due("count(5), times(" + n + ", 1)", x.count(5), rings);
    }

    private void noneForTen() {
        sentence("10: none, 1 is due");
        for (int place = 0; place <= 4; place++) {
            shortWay(96 * (int) ten(place), 4 + 1, 106 * ten(place), 2);
        }
        shortWay(999996, 4 + 1, 1000006, 2);
        shortWay(999999, 1 + 1, 1000009, 2);
        shortWay(9996, 4 + 1, 10006, 2);
        shortWay(59996, 4 + 4 + 1, 160006, 2);
        shortWay(49996, 4 + 5, 50006, 2);
    }

    private void upForTheOthers() {
        sentence("else as many up");
        for (int place = 0; place <= 5; place++) {
            for (int figure = 0; figure <= 5; figure++) {
                int n = figure * (int) ten(place);
                shortWay(n, figure, n, 0);
            }
        }
        for (int place = 0; place <= 4; place++) {
            for (int figure = 0; figure <= 4; figure++) {
                int n = (10 * figure + 6) * (int) ten(place);
                shortWay(n, 4 + figure + 1, n + ten(place + 1), 2);
            }
        }
    }

    private void seventhFigure() {
        sentence("a 7th figure is 0, but for what is due");
        shortWay(500000, 5, 500000, 0);
        shortWay(555555, 30, 555555, 0);
        shortWay(600000, 4 + 1, 1600000, 2);
        shortWay(560000, 4 + 4 + 1, 1660000, 2);
        shortWay(460000, 4 + 5, 560000, 2);
        shortWay(900000, 1 + 1, 1900000, 2);
        shortWay(960000, 4 + 1, 1060000, 2);
        due("counter(6)", x.counter(6), 1);
    }

    private void shiftBehind() {
        sentence("(All six figures are gone through, leading 0s, too; SHORT the 7th too."
                + " SHIFT is that of the last one gone through.)");
        for (int n : new int[] {0, 1, 6, 99, 500000, 600000, 999999}) {
            for (int s = 0; s <= 6; s += 3) {
                x.shifts(s);
                x.times(n, LONG);
                due("count(3) behind times(" + n + ", 0) from SHIFT " + s, x.count(3), 5);
                x.shifts(s);
                x.times(n, SHORT);
                due("count(3) behind times(" + n + ", 1) from SHIFT " + s, x.count(3), 6);
            }
        }
    }

    private void times() {
        sentence("`int times(int n, int k)`: TIMES n, LONG (k 0) or SHORT (1): TURNS. S. BAD.");
        x.input(7);
        due("times(0, 0)", x.times(0, 0), 0);
        due("times(0, 1)", x.times(0, 1), 0);
        due("times(999999, 0)", x.times(999999, 0), 54);
        due("times(999999, 1)", x.times(999999, 1), 2);
        due("times(555555, 1)", x.times(555555, 1), 30);
        due("times(555556, 1), each figure 6 then", x.times(555556, 1), 25);
        due("count(6)", x.count(6), 111);
        range("times(n, 0)", 0, 999999, (y, n) -> y.times(n, 0));
        range("times(n, 1)", 0, 999999, (y, n) -> y.times(n, 1));
        range("times(6, k)", 0, 1, (y, k) -> y.times(6, k));
        leavesState("times(0, 0)", y -> y.times(0, 0));
        leavesState("times(999999, 1)", y -> y.times(999999, 1));
    }

    private void turns() {
        sentence("`int turns(int n, int k)`: How many TURNS times(n, k) takes. BAD.");
        int[] numbers = {0, 1, 4, 5, 6, 9, 10, 45, 46, 95, 96, 499999, 500000, 555555, 555556, 595959, 600000,
            949494, 999995, 999999};
        for (int n : numbers) {
            for (int k = LONG; k <= SHORT; k++) {
                anew();
                x.input(1);
                int told = x.turns(n, k);
                due("count(6) behind turns(" + n + ", " + k + ")", x.count(6), 0);
                due("times(" + n + ", " + k + ")", x.times(n, k), told);
                due("count(6) behind times(" + n + ", " + k + ")", x.count(6), told);
            }
        }
        due("turns(999999, 0)", x.turns(999999, 0), 54);
        due("turns(999999, 1)", x.turns(999999, 1), 2);
        range("turns(n, 0)", 0, 999999, (y, n) -> y.turns(n, 0));
        range("turns(n, 1)", 0, 999999, (y, n) -> y.turns(n, 1));
        range("turns(6, k)", 0, 1, (y, k) -> y.turns(6, k));
        tellsOnly("turns(999999, 1)", y -> y.turns(999999, 1));
    }

    private void countersFromNull() {
        sentence("DIVIDES: COUNTERS 0");
        for (int s = 0; s <= 6; s++) {
            x.shifts(s);
            x.downs(s + 1);
        }
        x.input(8);
        x.lays(8000016);
        due("divides()", x.divides(), 14 + 1 + 2);
        due("count(2)", x.count(2), 1000002);
    }

    private void downTillBell() {
        sentence("for SHIFT 6 down to 0: TURNS down, till the BELL rings by one (20 at most)");
        for (int quotient = 0; quotient <= 20; quotient++) {
            anew();
            x.input(1);
            x.lays(quotient * 1000000L);
            due("divides(), the BELL by TURN " + (quotient + 1), x.divides(), quotient < 20 ? 14 + quotient : NO);
            due("count(6)", x.count(6), quotient < 20 ? 14 + quotient : 0);
        }
        for (int s = 0; s <= 6; s++) {
            anew();
            x.input(1);
            x.lays(9 * ten(s));
            due("divides(), 9 at SHIFT " + s, x.divides(), 14 + 9);
            due("count(2)", x.count(2), 9 * ten(s));
        }
        anew();
        x.input(49999);
        x.lays(999979999999L);
        due("divides(), the most but 1 for 20", x.divides(), 14 + 19 + 54);
        due("value()", x.value(), 49998);
        x.lays(999980000000L);
        due("divides(), 20 times", x.divides(), NO);
        x.shifts(4);
        x.lays(1);
        x.divides();
        due("count(3), SHIFT down to 0", x.count(3), 0);
    }

    private void oneUp() {
        sentence("then one TURN up");
        x.input(999999);
        x.lays(999998);
        due("divides(), nothing goes in", x.divides(), 14);
        due("value(), given back", x.value(), 999998);
        due("count(5), by the TURN up, too", x.count(5), 14);
        x.lays(999999);
        due("divides(), once", x.divides(), 15);
        due("value()", x.value(), 0);
        due("count(2)", x.count(2), 1);
        x.lays(MOST_VALUE);
        due("divides() of the most", x.divides(), 14 + 2);
        due("count(2)", x.count(2), 1000001);
        due("value()", x.value(), 0);
        x.lays(0);
        due("divides() of 0", x.divides(), 14);
        due("value()", x.value(), 0);
        due("count(2)", x.count(2), 0);
    }

    private void countersTheOtherWay() {
        sentence("(COUNTERS go the other way round in it: 1 more by a TURN down, 1 less by one up.)");
        for (int quotient = 0; quotient <= 19; quotient++) {
            x.input(1);
            x.lays(quotient * 1000000L + 987654);
            x.divides();
            due("count(2), " + quotient + " at SHIFT 6", x.count(2), quotient % 10 * 1000000 + 987654);
        }
        x.ups(1);
        due("count(2), up again as ever", x.count(2), 9987655);
        x.downs(1);
        due("count(2), down again as ever", x.count(2), 9987654);
    }

    private void drumsGiveNull() {
        sentence("NO (nothing is done): all DRUMS GIVE 0");
        due("divides(), DIGITS 0", x.divides(), NO);
        refused("divides(), DIGITS 0, behind input(0)", NO, y -> dividesBy(y, 0));
        anew();
        due("does()", does(x, "i5 2;w5 1;s4;u3;"), 4);
        due("divides(), one TOOTH whole", x.divides(), 14 + 3);
        x.back();
        x.wears(5, 2);
        dividesNot("no TOOTH whole up to the DIGIT");
        x.sets(5, 3);
        due("divides(), the third TOOTH whole", x.divides() > 0 ? 1 : 0, 1);
        x.back();
        x.wears(5, 3);
        dividesNot("no TOOTH whole up to 3");
    }

    private void dividesNot(String why) {
        long[] ahead = kept(x);
        long[] told = toldOf(x);
        due("divides(), " + why, x.divides(), NO);
        same("nothing is done, " + why, kept(x), ahead);
        told[1]++;
        same("told, " + why, toldOf(x), told);
    }

    /** The setting is taken back by itself, so that what is left is the refused call. */
    private static int dividesBy(DrumCrank y, int drums) {
        y.input(drums);
        int answer = y.divides();
        y.back();
        return answer;
    }

    private void noBell() {
        sentence("at one SHIFT the BELL did not ring");
        for (int c = 0; c <= 12; c++) {
            anew();
            does(x, "i0 7;i1 3;s5;u1;");
            x.lays(1000000);
            x.reaches(c);
            if (c >= 7) {
                due("divides(), REACH " + c, x.divides(), 32);
                due("value()", x.value(), 1);
            } else {
                dividesNot("no BELL at SHIFT " + (6 - c));
                due("back()", x.back(), 2);
                due("count(4), back ahead of reaches()", x.count(4), 12);
            }
        }
        anew();
        x.input(1);
        x.lays(20000000);
        due("divides(), no BELL by 20 TURNS", x.divides(), NO);
        due("value() stays", x.value(), 20000000);
        due("count(5) stays", x.count(5), 0);
        due("count(6) stays", x.count(6), 0);
        due("count(3) stays", x.count(3), 0);
    }

    private void divides() {
        sentence("`int divides()`: DIVIDES: TURNS. S. NO.");
        x.input(1);
        due("divides(), the fewest TURNS", x.divides(), 14);
        x.lays(19999999);
        due("divides(), the most TURNS", x.divides(), 14 + 19 + 6 * 9);
        due("count(6)", x.count(6), 14 + 87);
        due("told(4)", x.told(4), 4);
        x.lays(20000000);
        due("divides()", x.divides(), NO);
        due("told(1)", x.told(1), 1);
        due("told(4)", x.told(4), 5);
        refused("divides()", NO, y -> dividesBy(y, 0));
        leavesState("divides()", y -> y.divides());
    }
}
