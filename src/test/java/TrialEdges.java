/** TRIALS, and the one TOOTH that would explain what they show. */
final class TrialEdges extends Edges {
    TrialEdges(Document document, Check check) {
        super(document, check);
    }

    @Override
    void run() {
        turnsOfTrial();
        asTheyAre();
        trial();
        numbersOfTeeth();
        aloneWorn();
        explains();
    }

    private void turnsOfTrial() {
        sentence("TRIAL of n TURNS up (1 .. 99)");
        x.input(999999);
        due("trial(0)", x.trial(0), BAD);
        due("trial(1)", x.trial(1), 999999);
        due("trial(99)", x.trial(99), 98999901);
        due("trial(100)", x.trial(100), BAD);
    }

    private void asTheyAre() {
        sentence("with the DRUMS' DIGITS as they are, SHIFT 0, REACH as it is, from WHEELS 0: the VALUE then");
        x.input(500000);
        x.shifts(6);
        x.lays(MOST_VALUE);
        for (int c = 0; c <= 12; c++) {
            x.reaches(c);
            due("trial(1), REACH " + c, x.trial(1), 500000);
            due("trial(2), the CARRY to WHEEL 6, REACH " + c, x.trial(2), c == 0 ? 0 : 1000000);
            due("trial(20), the CARRY to WHEEL 7, REACH " + c, x.trial(20), c <= 1 ? 0 : 10000000);
            due("trial(99), REACH " + c, x.trial(99), c == 0 ? 500000 : c == 1 ? 9500000 : 49500000);
        }
        x.input(999999);
        long[] cut = {999901, 8999901, 98999901};
        for (int c = 0; c <= 12; c++) {
            x.reaches(c);
            due("trial(99) of the most, REACH " + c, x.trial(99), cut[Math.min(c, 2)]);
        }
        x.input(0);
        due("trial(99) of nothing", x.trial(99), 0);
        x.input(900001);
        x.wears(5, 9);
        x.wears(0, 2);
        due("trial(3), WORN as they are", x.trial(3), 2400003);
    }

    private void trial() {
        sentence("`long trial(int n)`: TRIAL. BAD.");
        for (int n = 1; n <= 99; n++) {
            anew();
            x.input(987654);
            long told = x.trial(n);
            x.ups(n);
            due("value() behind ups(" + n + ")", x.value(), told);
        }
        range("trial(n)", 1, 99, (y, n) -> y.trial(n));
        tellsOnly("trial(99)", y -> y.trial(99));
    }

    private void numbersOfTeeth() {
        sentence("EXPLAINS v: TEETH (of DRUM d, TOOTH t: number 10 d + t)");
        for (int d = 0; d <= 5; d++) {
            anew();
            for (int digit = 1; digit <= 9; digit++) {
                x.input(digit * (int) ten(d));
                long less = (digit - 1) * ten(d);
                due("TEETH of DRUM " + d + ", DIGIT " + digit, x.explains(less, 1, 0), digit);
                due("the least", x.explains(less, 1, 1), 10 * d + 1);
                due("the greatest", x.explains(less, 1, 2), 10 * d + digit);
                long all = digit * ten(d);
                due("TEETH above DIGIT " + digit, x.explains(all, 1, 0), 54 - digit);
                due("the least", x.explains(all, 1, 1), d > 0 ? 1 : digit < 9 ? digit + 1 : 11);
                due("the greatest", x.explains(all, 1, 2), d < 5 ? 59 : digit < 9 ? 59 : 49);
            }
        }
        anew();
        due("DIGITS 0: all TEETH", x.explains(0, 99, 0), 54);
        x.input(999999);
        due("DIGITS 9: no TOOTH without use", x.explains(999999, 1, 0), 0);
    }

    private void aloneWorn() {
        sentence("such that, were it alone WORN of all, TRIAL would be v");
        x.input(99);
        x.wears(0, 9);
        x.wears(1, 1);
        due("what all WORN ones together show", x.explains(x.trial(1), 1, 0), 0);
        due("DRUM 0 alone, its own WORN TOOTH, too", x.explains(98, 1, 0), 9);
        due("the greatest, WORN already", x.explains(98, 1, 2), 9);
        due("DRUM 1 alone, the least WORN already", x.explains(89, 1, 1), 11);
        x.wears(5, 9);
        due("a WORN TOOTH above its DIGIT", x.explains(99, 1, 2), 59);
        x.input(500000);
        x.shifts(6);
        x.lays(MOST_VALUE);
        x.reaches(0);
        due("REACH 0: the CARRY is lost", x.explains(0, 2, 0), 54 - 5);
        due("REACH 0: 4 and 4 carry not", x.explains(800000, 2, 0), 5);
        due("REACH 0: no WHEEL 6", x.explains(1000000, 2, 0), 0);
        x.reaches(1);
        due("REACH 1: WHEEL 6", x.explains(1000000, 2, 0), 54 - 5);
        due("REACH 1: no WHEEL 7", x.explains(10000000, 20, 0), 0);
        x.reaches(2);
        due("REACH 2: WHEEL 7", x.explains(10000000, 20, 0), 54 - 5);
    }

    private void explains() {
        sentence("`int explains(long v, int n, int what)`: Of TEETH that EXPLAIN v (0 .. 999999999999) by a TRIAL of n:"
                + " how many (what 0), the least number (1; NONE), the greatest (2; NONE). BAD.");
        x.input(1);
        due("none, how many", x.explains(MOST_VALUE, 99, 0), 0);
        due("none, the least", x.explains(MOST_VALUE, 99, 1), NONE);
        due("none, the greatest", x.explains(MOST_VALUE, 99, 2), NONE);
        due("v is no int", x.explains(1L << 32, 1, 0), 0);
        due("v is no int, the least", x.explains(1L << 32, 1, 1), NONE);
        due("one alone, how many", x.explains(0, 1, 0), 1);
        due("one alone, the least", x.explains(0, 1, 1), 1);
        due("one alone, the greatest", x.explains(0, 1, 2), 1);
        due("all but one, how many", x.explains(99, 99, 0), 53);
        due("all but one, the least", x.explains(99, 99, 1), 2);
        due("all but one, the greatest", x.explains(99, 99, 2), 59);
        x.input(100000);
        due("one alone, the last DRUM", x.explains(0, 99, 1), 51);
        due("NONE is no refusal", x.told(0) + x.told(1) + x.told(2), 0);
        rangeOfValue("explains(v, 1, 0)", (y, v) -> y.explains(v, 1, 0));
        range("explains(0, n, 1)", 1, 99, (y, n) -> y.explains(0, n, 1));
        range("explains(0, 1, what)", 0, 2, (y, what) -> y.explains(0, 1, what));
        refused("explains(-1, 0, 3)", BAD, y -> y.explains(-1, 0, 3));
        tellsOnly("explains(405060, 1, 0)", y -> y.explains(405060, 1, 0));
    }
}
