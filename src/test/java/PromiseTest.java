/** Each promise of the document by its number: ordinary inputs, the edges it names, and wrong inputs. */
public final class PromiseTest {
    private static final int LEAST = Integer.MIN_VALUE, MOST = Integer.MAX_VALUE;
    private static final int NONE = DrumCrank.NONE, BAD = DrumCrank.BAD, NO = DrumCrank.NO, FULL = DrumCrank.FULL;

    private final Check check = new Check();
    private DrumCrank x;
    private String promise;

    public static void main(String[] args) {
        PromiseTest test = new PromiseTest();
        test.whatIsToldIn();
        test.turning();
        test.whatIsTold();
        test.texts();
        test.check.end();
    }

    private void whatIsToldIn() {
        aNewObject();
        sets();
        input();
        shifts();
        reaches();
        wears();
        clears();
        lays();
    }

    private void turning() {
        ups();
        upsWithinReach();
        downs();
        downsWithinReach();
        times();
        divides();
        dividesRefused();
        turns();
    }

    private void whatIsTold() {
        drum();
        wheel();
        value();
        counter();
        count();
        trial();
        explains();
    }

    private void texts() {
        type();
        wipes();
        does();
        doesEachOrder();
        faults();
        faultsFarBehind();
        refusedOrders();
        back();
        backToAll();
        told();
        digest();
    }

    private void begin(String promise) {
        this.promise = promise;
        x = new DrumCrank();
    }

    private void due(String call, long got, long want) {
        check.due(promise + ": " + call, got, want);
    }

    private void bad(String call, long got) {
        due(call, got, BAD);
    }

    /** Wrong inputs change nothing but how often they were refused. */
    private void refusedOnly(int times) {
        due("told(0) behind wrong inputs", x.told(0), times);
        due("told(1) behind wrong inputs", x.told(1), 0);
        due("told(2) behind wrong inputs", x.told(2), 0);
    }

    private void writes(String text) {
        x.wipes();
        for (int p = 0; p < text.length(); p++) {
            x.type(text.charAt(p));
        }
    }

    private int doing(String text) {
        writes(text);
        return x.does();
    }

    private void aNewObject() {
        begin("1");
        for (int what = 0; what <= 4; what++) {
            due("told(" + what + ")", x.told(what), 0);
        }
        for (int what = 0; what <= 7; what++) {
            due("count(" + what + ")", x.count(what), what == 4 ? 12 : 0);
        }
        for (int d = 0; d < 6; d++) {
            for (int what = 0; what <= 2; what++) {
                due("drum(" + d + ", " + what + ")", x.drum(d, what), 0);
            }
        }
        for (int k = 0; k < 12; k++) {
            due("wheel(" + k + ")", x.wheel(k), 0);
        }
        for (int k = 0; k < 7; k++) {
            due("counter(" + k + ")", x.counter(k), 0);
        }
        due("value()", x.value(), 0);
        DrumCrank other = new DrumCrank();
        other.input(7);
        due("an object by itself", x.count(0), 0);
    }

    private void sets() {
        begin("2");
        due("sets(0, 5)", x.sets(0, 5), 0);
        due("sets(0, 9)", x.sets(0, 9), 5);
        due("sets(0, 0)", x.sets(0, 0), 9);
        due("sets(5, 9)", x.sets(5, 9), 0);
        due("count(0)", x.count(0), 900000);
        due("told(4)", x.told(4), 4);
        bad("sets(-1, 0)", x.sets(-1, 0));
        bad("sets(6, 0)", x.sets(6, 0));
        bad("sets(0, -1)", x.sets(0, -1));
        bad("sets(0, 10)", x.sets(0, 10));
        bad("sets(least, most)", x.sets(LEAST, MOST));
        bad("sets(most, least)", x.sets(MOST, LEAST));
        refusedOnly(6);
        due("told(4)", x.told(4), 4);
        due("count(0)", x.count(0), 900000);
        x.back();
        due("count(0) taken back", x.count(0), 0);
    }

    private void input() {
        begin("3");
        due("input(120304)", x.input(120304), 0);
        due("drum(0, 0)", x.drum(0, 0), 4);
        due("drum(1, 0)", x.drum(1, 0), 0);
        due("drum(2, 0)", x.drum(2, 0), 3);
        due("drum(4, 0)", x.drum(4, 0), 2);
        due("drum(5, 0)", x.drum(5, 0), 1);
        x.wears(5, 1);
        due("input(999999), told by DIGITS, not by what they GIVE", x.input(999999), 120304);
        due("input(0)", x.input(0), 999999);
        bad("input(-1)", x.input(-1));
        bad("input(1000000)", x.input(1000000));
        bad("input(least)", x.input(LEAST));
        bad("input(most)", x.input(MOST));
        refusedOnly(4);
        due("count(0)", x.count(0), 0);
        due("told(4)", x.told(4), 4);
        x.back();
        due("count(0) taken back", x.count(0), 999999);
    }

    private void shifts() {
        begin("4");
        due("shifts(6)", x.shifts(6), 0);
        due("shifts(6) again", x.shifts(6), 6);
        due("shifts(0)", x.shifts(0), 6);
        due("count(3)", x.count(3), 0);
        due("told(4)", x.told(4), 3);
        bad("shifts(-1)", x.shifts(-1));
        bad("shifts(7)", x.shifts(7));
        bad("shifts(least)", x.shifts(LEAST));
        bad("shifts(most)", x.shifts(MOST));
        refusedOnly(4);
        due("count(3)", x.count(3), 0);
        x.back();
        due("count(3) taken back", x.count(3), 6);
    }

    private void reaches() {
        begin("5");
        due("reaches(0)", x.reaches(0), 12);
        due("reaches(5)", x.reaches(5), 0);
        due("reaches(12)", x.reaches(12), 5);
        due("count(4)", x.count(4), 12);
        due("told(4)", x.told(4), 3);
        bad("reaches(-1)", x.reaches(-1));
        bad("reaches(13)", x.reaches(13));
        bad("reaches(least)", x.reaches(LEAST));
        bad("reaches(most)", x.reaches(MOST));
        refusedOnly(4);
        x.back();
        due("count(4) taken back", x.count(4), 5);
    }

    private void wears() {
        begin("6");
        due("wears(2, 1)", x.wears(2, 1), 1);
        due("wears(2, 9)", x.wears(2, 9), 2);
        due("wears(0, 9)", x.wears(0, 9), 1);
        due("wears(2, 1), whole again", x.wears(2, 1), 1);
        due("drum(2, 2)", x.drum(2, 2), 512);
        due("wears(5, 3)", x.wears(5, 3), 1);
        due("told(4)", x.told(4), 5);
        bad("wears(-1, 1)", x.wears(-1, 1));
        bad("wears(6, 1)", x.wears(6, 1));
        bad("wears(0, 0)", x.wears(0, 0));
        bad("wears(0, 10)", x.wears(0, 10));
        bad("wears(0, 33)", x.wears(0, 33));
        bad("wears(least, least)", x.wears(LEAST, LEAST));
        bad("wears(most, most)", x.wears(MOST, MOST));
        refusedOnly(7);
        due("count(7)", x.count(7), 3);
        x.back();
        due("count(7) taken back", x.count(7), 2);
    }

    private void clears() {
        begin("7");
        x.lays(100020003009L);
        x.input(1);
        x.shifts(3);
        x.ups(1);
        due("clears()", x.clears(), 4);
        due("value()", x.value(), 0);
        due("count(2)", x.count(2), 0);
        due("count(0) stays", x.count(0), 1);
        due("count(3) stays", x.count(3), 3);
        due("count(6) stays", x.count(6), 1);
        due("clears() of nothing", x.clears(), 0);
        due("told(4)", x.told(4), 5);
        x.back();
        x.back();
        due("value() taken back", x.value(), 100020004009L);
        due("count(2) taken back", x.count(2), 1000);
    }

    private void lays() {
        begin("8");
        due("lays(123)", x.lays(123), 3);
        due("lays(103)", x.lays(103), 1);
        due("lays(103) again", x.lays(103), 0);
        due("lays(999999999999)", x.lays(999999999999L), 12);
        due("value()", x.value(), 999999999999L);
        due("lays(987654321098)", x.lays(987654321098L), 10);
        due("wheel(0)", x.wheel(0), 8);
        due("wheel(11)", x.wheel(11), 9);
        due("lays(0)", x.lays(0), 11);
        x.ups(1);
        due("lays(0) over COUNTERS", x.lays(0), 0);
        due("count(2) stays", x.count(2), 1);
        x.lays(5);
        x.lays(66);
        x.back();
        due("value() taken back", x.value(), 5);
        bad("lays(-1)", x.lays(-1));
        bad("lays(1000000000000)", x.lays(1000000000000L));
        bad("lays(least)", x.lays(Long.MIN_VALUE));
        bad("lays(most)", x.lays(Long.MAX_VALUE));
        refusedOnly(4);
        due("value() stays", x.value(), 5);
        due("told(4)", x.told(4), 4);
    }

    private void ups() {
        begin("9");
        x.input(999999);
        due("ups(99)", x.ups(99), 0);
        due("value()", x.value(), 98999901L);
        due("counter(0)", x.counter(0), 9);
        due("count(6)", x.count(6), 99);
        due("ups(1), COUNTER 0 behind 9", x.ups(1), 0);
        due("counter(0)", x.counter(0), 0);
        due("counter(1)", x.counter(1), 0);
        x.lays(999999999999L);
        due("ups(2), the BELL by the first", x.ups(2), 1);
        due("value()", x.value(), 1999997L);
        due("count(5)", x.count(5), 1);
        x.shifts(6);
        x.lays(999999L);
        due("ups(10) at SHIFT 6", x.ups(10), 9);
        due("value()", x.value(), 999990999999L);
        due("counter(6)", x.counter(6), 0);
        due("count(5)", x.count(5), 10);
        x.wears(0, 9);
        x.clears();
        x.ups(1);
        due("a WORN TOOTH gives nothing", x.value(), 999998000000L);
        bad("ups(0)", x.ups(0));
        bad("ups(-1)", x.ups(-1));
        bad("ups(100)", x.ups(100));
        bad("ups(least)", x.ups(LEAST));
        bad("ups(most)", x.ups(MOST));
        refusedOnly(5);
        due("value() stays", x.value(), 999998000000L);
        x.back();
        due("value() taken back", x.value(), 0);
        due("count(6) taken back", x.count(6), 112);
    }

    private void upsWithinReach() {
        begin("9, REACH");
        x.input(1);
        x.reaches(0);
        x.lays(999999);
        x.ups(1);
        due("REACH 0: the CARRY to WHEEL 6 is lost", x.value(), 0);
        x.reaches(1);
        x.lays(9999999);
        x.ups(1);
        due("REACH 1: the CARRY to WHEEL 7 is lost", x.value(), 0);
        x.lays(999999);
        x.ups(1);
        due("REACH 1: the CARRY to WHEEL 6 comes", x.value(), 1000000);
        x.reaches(6);
        x.lays(999999999999L);
        due("REACH 6: no BELL at SHIFT 0", x.ups(1), 0);
        due("value()", x.value(), 0);
        x.reaches(7);
        x.lays(999999999999L);
        due("REACH 7: the BELL at SHIFT 0", x.ups(1), 1);
        x.shifts(6);
        x.reaches(0);
        x.lays(999999999999L);
        due("REACH 0: no BELL at SHIFT 6", x.ups(1), 0);
        due("value()", x.value(), 999999);
        x.reaches(1);
        x.lays(999999999999L);
        due("REACH 1: the BELL at SHIFT 6", x.ups(1), 1);
        x.shifts(2);
        x.reaches(2);
        x.lays(99999999900L);
        x.ups(1);
        due("SHIFT 2, REACH 2: lost to WHEEL 10", x.value(), 90000000000L);
        due("count(5)", x.count(5), 2);
    }

    private void downs() {
        begin("10");
        x.input(1);
        due("downs(1) from 0", x.downs(1), 1);
        due("value()", x.value(), 999999999999L);
        due("counter(0), 9 behind 0", x.counter(0), 9);
        due("downs(99)", x.downs(99), 0);
        due("value()", x.value(), 999999999900L);
        due("counter(0)", x.counter(0), 0);
        due("count(5)", x.count(5), 1);
        due("count(6)", x.count(6), 100);
        x.input(999999);
        x.shifts(6);
        x.clears();
        due("downs(10) at SHIFT 6", x.downs(10), 10);
        due("value()", x.value(), 10000000L);
        x.input(54321);
        x.shifts(3);
        x.lays(54321000);
        due("downs(1) to 0", x.downs(1), 0);
        due("value()", x.value(), 0);
        due("counter(3)", x.counter(3), 9);
        bad("downs(0)", x.downs(0));
        bad("downs(-1)", x.downs(-1));
        bad("downs(100)", x.downs(100));
        bad("downs(least)", x.downs(LEAST));
        bad("downs(most)", x.downs(MOST));
        refusedOnly(5);
        x.back();
        due("value() taken back", x.value(), 54321000);
    }

    private void downsWithinReach() {
        begin("10, REACH");
        x.input(1);
        x.reaches(0);
        due("REACH 0: no BELL", x.downs(1), 0);
        due("value()", x.value(), 999999);
        x.clears();
        x.reaches(6);
        due("REACH 6: no BELL at SHIFT 0", x.downs(1), 0);
        due("value()", x.value(), 999999999999L);
        x.clears();
        x.reaches(7);
        due("REACH 7: the BELL at SHIFT 0", x.downs(1), 1);
        x.clears();
        x.shifts(5);
        x.reaches(1);
        due("REACH 1: no BELL at SHIFT 5", x.downs(1), 0);
        x.clears();
        x.reaches(2);
        due("REACH 2: the BELL at SHIFT 5", x.downs(1), 1);
        due("value()", x.value(), 999999900000L);
    }

    private void times() {
        begin("11");
        x.input(123456);
        x.lays(777);
        x.ups(3);
        due("times(789012, 0)", x.times(789012, 0), 27);
        due("value()", x.value(), 97408265472L);
        due("count(2)", x.count(2), 789012);
        due("count(3)", x.count(3), 5);
        due("times(789012, 1)", x.times(789012, 1), 8);
        due("value()", x.value(), 97408265472L);
        due("count(2), 7 as 9 less 2, a 1 ahead", x.count(2), 1899012);
        due("count(3)", x.count(3), 6);
        due("count(5): BELL down and up again", x.count(5), 2);
        due("times(5, 1), 5 goes up", x.times(5, 1), 5);
        due("times(6, 1), 6 goes down", x.times(6, 1), 5);
        due("count(2)", x.count(2), 16);
        due("times(96, 1), 10 takes none", x.times(96, 1), 5);
        due("count(2)", x.count(2), 106);
        due("times(999999, 0)", x.times(999999, 0), 54);
        due("value()", x.value(), 123455876544L);
        due("times(0, 0)", x.times(0, 0), 0);
        due("value()", x.value(), 0);
        due("count(3)", x.count(3), 5);
        due("times(0, 1)", x.times(0, 1), 0);
        due("count(3)", x.count(3), 6);
        bad("times(-1, 0)", x.times(-1, 0));
        bad("times(1000000, 0)", x.times(1000000, 0));
        bad("times(0, -1)", x.times(0, -1));
        bad("times(0, 2)", x.times(0, 2));
        bad("times(least, most)", x.times(LEAST, MOST));
        bad("times(most, least)", x.times(MOST, LEAST));
        refusedOnly(6);
        due("told(4)", x.told(4), 5);
        x.back();
        x.back();
        due("value() taken back", x.value(), 123455876544L);
    }

    private void divides() {
        begin("12");
        x.input(37);
        x.lays(1000000);
        x.shifts(4);
        x.ups(1);
        x.lays(1000000);
        due("divides()", x.divides(), 32);
        due("value()", x.value(), 1);
        due("count(2)", x.count(2), 27027);
        due("count(3)", x.count(3), 0);
        due("count(5)", x.count(5), 14);
        due("count(6)", x.count(6), 33);
        due("told(4)", x.told(4), 5);
        due("back()", x.back(), 4);
        due("value() taken back", x.value(), 1000000);
        due("count(2) taken back", x.count(2), 10000);
        due("count(3) taken back", x.count(3), 4);
        due("count(5) taken back", x.count(5), 0);
        x.input(1);
        x.lays(19999999);
        due("divides(), the BELL by the 20th", x.divides(), 14 + 19 + 54);
        due("count(2), 19 seen as 9", x.count(2), 9999999);
        due("value()", x.value(), 0);
        x.lays(0);
        due("divides() of 0", x.divides(), 14);
        due("count(2)", x.count(2), 0);
        x.input(55);
        x.wears(0, 1);
        x.lays(541);
        due("divides() by what the DRUMS GIVE", x.divides(), 14 + 1);
        due("count(2)", x.count(2), 10);
        due("value()", x.value(), 1);
    }

    private void dividesRefused() {
        begin("12, NO");
        x.lays(5);
        x.shifts(2);
        due("divides(), DRUMS 0", x.divides(), NO);
        x.sets(1, 1);
        x.wears(1, 1);
        due("divides(), the TOOTH WORN", x.divides(), NO);
        x.input(1);
        x.lays(20000000);
        x.ups(1);
        long ahead = x.value();
        due("divides(), no BELL by the 20th", x.divides(), NO);
        due("value() stays", x.value(), ahead);
        due("count(2) stays", x.count(2), 100);
        due("count(3) stays", x.count(3), 2);
        due("count(5) stays", x.count(5), 0);
        due("count(6) stays", x.count(6), 1);
        x.lays(100);
        x.reaches(6);
        due("divides(), REACH too short at SHIFT 0", x.divides(), NO);
        due("count(5) stays", x.count(5), 0);
        due("count(6) stays", x.count(6), 1);
        due("count(2) stays", x.count(2), 100);
        due("count(3) stays", x.count(3), 2);
        due("value() stays", x.value(), 100);
        x.reaches(7);
        due("divides(), REACH long enough", x.divides(), 14 + 1);
        due("told(0)", x.told(0), 0);
        due("told(1)", x.told(1), 4);
        due("told(4)", x.told(4), 5);
    }

    private void turns() {
        begin("13");
        due("turns(999999, 0)", x.turns(999999, 0), 54);
        due("turns(999999, 1)", x.turns(999999, 1), 2);
        due("turns(555555, 1)", x.turns(555555, 1), 30);
        due("turns(555556, 1), the 1 due makes all 6", x.turns(555556, 1), 25);
        due("turns(666666, 1)", x.turns(666666, 1), 20);
        due("turns(500000, 1)", x.turns(500000, 1), 5);
        due("turns(600000, 1)", x.turns(600000, 1), 5);
        due("turns(600000, 0)", x.turns(600000, 0), 6);
        due("turns(0, 0)", x.turns(0, 0), 0);
        due("turns(0, 1)", x.turns(0, 1), 0);
        due("count(6): nothing is done", x.count(6), 0);
        due("told(4): no STATE", x.told(4), 0);
        bad("turns(-1, 0)", x.turns(-1, 0));
        bad("turns(1000000, 1)", x.turns(1000000, 1));
        bad("turns(0, -1)", x.turns(0, -1));
        bad("turns(0, 2)", x.turns(0, 2));
        bad("turns(least, 0)", x.turns(LEAST, 0));
        bad("turns(most, 1)", x.turns(MOST, 1));
        refusedOnly(6);
    }

    private void drum() {
        begin("14");
        x.input(900040);
        x.wears(1, 4);
        x.wears(1, 5);
        x.wears(5, 1);
        x.wears(5, 9);
        x.wears(0, 1);
        due("drum(1, 0)", x.drum(1, 0), 4);
        due("drum(1, 1)", x.drum(1, 1), 3);
        due("drum(1, 2)", x.drum(1, 2), 48);
        due("drum(5, 0)", x.drum(5, 0), 9);
        due("drum(5, 1)", x.drum(5, 1), 7);
        due("drum(5, 2)", x.drum(5, 2), 514);
        due("drum(0, 1), DIGIT 0", x.drum(0, 1), 0);
        due("drum(0, 2)", x.drum(0, 2), 2);
        for (int t = 2; t <= 8; t++) {
            x.wears(5, t);
        }
        due("drum(5, 1), all WORN", x.drum(5, 1), 0);
        due("drum(5, 2), all WORN", x.drum(5, 2), 1022);
        due("told(4): no STATE of its own", x.told(4), 5);
        bad("drum(-1, 0)", x.drum(-1, 0));
        bad("drum(6, 0)", x.drum(6, 0));
        bad("drum(0, -1)", x.drum(0, -1));
        bad("drum(0, 3)", x.drum(0, 3));
        bad("drum(least, least)", x.drum(LEAST, LEAST));
        bad("drum(most, most)", x.drum(MOST, MOST));
        refusedOnly(6);
    }

    private void wheel() {
        begin("15");
        x.lays(210987654321L);
        for (int k = 0; k < 12; k++) {
            due("wheel(" + k + ")", x.wheel(k), (k + 1) % 10);
        }
        bad("wheel(-1)", x.wheel(-1));
        bad("wheel(12)", x.wheel(12));
        bad("wheel(least)", x.wheel(LEAST));
        bad("wheel(most)", x.wheel(MOST));
        refusedOnly(4);
        due("told(4)", x.told(4), 1);
    }

    private void value() {
        begin("16");
        x.lays(210987654321L);
        due("value()", x.value(), 210987654321L);
        x.lays(999999999999L);
        due("value()", x.value(), 999999999999L);
        due("told(4): no STATE", x.told(4), 2);
    }

    private void counter() {
        begin("17");
        for (int k = 0; k < 7; k++) {
            x.shifts(k);
            x.ups(k + 11);
        }
        for (int k = 0; k < 7; k++) {
            due("counter(" + k + ")", x.counter(k), k + 1);
        }
        bad("counter(-1)", x.counter(-1));
        bad("counter(7)", x.counter(7));
        bad("counter(least)", x.counter(LEAST));
        bad("counter(most)", x.counter(MOST));
        refusedOnly(4);
    }

    private void count() {
        begin("18");
        x.input(987650);
        x.wears(5, 9);
        x.wears(4, 9);
        x.wears(1, 1);
        x.reaches(11);
        x.shifts(6);
        x.lays(999999999999L);
        x.ups(12);
        due("count(0)", x.count(0), 987650);
        due("count(1)", x.count(1), 887640);
        due("count(2)", x.count(2), 2000000);
        due("count(3)", x.count(3), 6);
        due("count(4)", x.count(4), 11);
        due("count(5)", x.count(5), 11);
        due("count(6)", x.count(6), 12);
        due("count(7)", x.count(7), 3);
        bad("count(-1)", x.count(-1));
        bad("count(8)", x.count(8));
        bad("count(least)", x.count(LEAST));
        bad("count(most)", x.count(MOST));
        refusedOnly(4);
        due("told(4): no STATE of its own", x.told(4), 5);
    }

    private void trial() {
        begin("19");
        x.input(999999);
        x.shifts(5);
        x.lays(4);
        due("trial(1)", x.trial(1), 999999);
        due("trial(99)", x.trial(99), 98999901);
        x.wears(0, 9);
        due("trial(2), a TOOTH WORN", x.trial(2), 1999996);
        x.wears(0, 9);
        x.reaches(0);
        due("trial(99), REACH 0", x.trial(99), 999901);
        x.reaches(1);
        due("trial(99), REACH 1", x.trial(99), 8999901);
        due("trial(10), REACH 1", x.trial(10), 9999990);
        x.reaches(2);
        due("trial(99), REACH 2", x.trial(99), 98999901);
        due("value() stays", x.value(), 4);
        due("count(3) stays", x.count(3), 5);
        due("count(6) stays", x.count(6), 0);
        due("count(2) stays", x.count(2), 0);
        bad("trial(0)", x.trial(0));
        bad("trial(-1)", x.trial(-1));
        bad("trial(100)", x.trial(100));
        bad("trial(least)", x.trial(LEAST));
        bad("trial(most)", x.trial(MOST));
        refusedOnly(5);
    }

    private void explains() {
        begin("20");
        x.input(400052);
        due("explains(400052, 1, 0), TEETH not in use", x.explains(400052, 1, 0), 43);
        due("explains(400052, 1, 1)", x.explains(400052, 1, 1), 3);
        due("explains(400052, 1, 2)", x.explains(400052, 1, 2), 59);
        due("explains(800102, 2, 0)", x.explains(800102, 2, 0), 2);
        due("explains(800102, 2, 1)", x.explains(800102, 2, 1), 1);
        due("explains(800102, 2, 2)", x.explains(800102, 2, 2), 2);
        due("explains(400042, 1, 1)", x.explains(400042, 1, 1), 11);
        due("explains(400042, 1, 2)", x.explains(400042, 1, 2), 15);
        due("explains(300052, 1, 1)", x.explains(300052, 1, 1), 51);
        due("explains(300052, 1, 2)", x.explains(300052, 1, 2), 54);
        due("explains(999999999999, 99, 0)", x.explains(999999999999L, 99, 0), 0);
        due("explains(999999999999, 99, 1)", x.explains(999999999999L, 99, 1), NONE);
        due("explains(999999999999, 99, 2)", x.explains(999999999999L, 99, 2), NONE);
        x.wears(5, 1);
        due("explains(300052, 1, 0), WORN ones left aside", x.explains(300052, 1, 0), 4);
        x.input(200000);
        x.reaches(0);
        due("explains(0, 10, 0), REACH 0 hides all", x.explains(0, 10, 0), 54);
        x.shifts(3);
        x.lays(7);
        due("explains(0, 10, 2), SHIFT and WHEELS left aside", x.explains(0, 10, 2), 59);
        due("told(0): NONE is no refusal", x.told(0), 0);
        bad("explains(-1, 1, 0)", x.explains(-1, 1, 0));
        bad("explains(1000000000000, 1, 0)", x.explains(1000000000000L, 1, 0));
        bad("explains(least, 1, 0)", x.explains(Long.MIN_VALUE, 1, 0));
        bad("explains(most, 1, 0)", x.explains(Long.MAX_VALUE, 1, 0));
        bad("explains(0, 0, 0)", x.explains(0, 0, 0));
        bad("explains(0, 100, 0)", x.explains(0, 100, 0));
        bad("explains(0, 1, -1)", x.explains(0, 1, -1));
        bad("explains(0, 1, 3)", x.explains(0, 1, 3));
        bad("explains(0, least, most)", x.explains(0, LEAST, MOST));
        refusedOnly(9);
        due("value() stays", x.value(), 7);
    }

    private void type() {
        begin("21");
        due("type(0)", x.type(0), 1);
        due("type(127)", x.type(127), 2);
        bad("type(-1)", x.type(-1));
        bad("type(128)", x.type(128));
        bad("type(least)", x.type(LEAST));
        bad("type(most)", x.type(MOST));
        refusedOnly(4);
        for (int p = 3; p <= 120; p++) {
            due("type(32)", x.type(32), p);
        }
        due("type(32), the 121st", x.type(32), FULL);
        bad("type(128), BAD ahead of FULL", x.type(128));
        due("told(0)", x.told(0), 5);
        due("told(2)", x.told(2), 1);
        due("told(3)", x.told(3), 120);
        due("told(4): no STATE", x.told(4), 0);
    }

    private void wipes() {
        begin("22");
        due("wipes() of nothing", x.wipes(), 0);
        writes("s3;");
        due("wipes()", x.wipes(), 3);
        due("wipes() again", x.wipes(), 0);
        due("told(3)", x.told(3), 0);
        due("told(4): no STATE", x.told(4), 0);
        due("does() of nothing", x.does(), -10);
        for (int p = 0; p < 120; p++) {
            x.type(' ');
        }
        due("wipes() of all", x.wipes(), 120);
        due("type() anew", x.type('c'), 1);
    }

    private void does() {
        begin("23");
        due("does()", doing("i0 7;i 1 2;u3;"), 3);
        due("value()", x.value(), 81);
        due("told(3), THE TEXT stays", x.told(3), 14);
        due("told(4), one STATE for all", x.told(4), 1);
        due("does() again", x.does(), 3);
        due("value()", x.value(), 162);
        due("back()", x.back(), 1);
        due("value() taken back", x.value(), 81);
        due("told(3), THE TEXT is not", x.told(3), 14);
        due("back()", x.back(), 0);
        due("count(0) taken back", x.count(0), 0);
        due("sixty ORDERS", doing("c;".repeat(60)), 60);
        due("sixty-one begun", doing("c;".repeat(59) + "cc"), -10 - 119);
        due("blanks all over", doing("  s  3  ;  t  000012   1  ;  "), 2);
        due("count(2)", x.count(2), 12);
        due("six figures", doing("t999999 000001;"), 1);
        due("count(2)", x.count(2), 1000009);
        due("ORDERS that change nothing", doing("s6;"), 1);
        due("told(4)", x.told(4), 4);
    }

    private void doesEachOrder() {
        begin("23, ORDERS");
        due("i", doing("i5 9;"), 1);
        due("count(0)", x.count(0), 900000);
        due("s", doing("s6;"), 1);
        due("count(3)", x.count(3), 6);
        due("u", doing("u9;"), 1);
        due("value()", x.value(), 100000000000L);
        due("count(5)", x.count(5), 8);
        due("d", doing("d2;"), 1);
        due("value()", x.value(), 300000000000L);
        due("count(2)", x.count(2), 7000000);
        due("c", doing("c;"), 1);
        due("value()", x.value(), 0);
        due("count(2)", x.count(2), 0);
        due("r", doing("r11;"), 1);
        due("count(4)", x.count(4), 11);
        due("w", doing("w5 9;"), 1);
        due("drum(5, 2)", x.drum(5, 2), 512);
        due("t", doing("t19 0;"), 1);
        due("value()", x.value(), 15200000);
        due("t, SHORT", doing("t19 1;"), 1);
        due("count(2), 2 and 9", x.count(2), 29);
        due("v", doing("v;"), 1);
        due("value()", x.value(), 0);
        due("count(2)", x.count(2), 19);
    }

    private void fault(String text, int place) {
        int states = x.told(4);
        long works = x.value();
        due("does() of '" + text + "'", doing(text), -10 - place);
        due("told(4) behind '" + text + "'", x.told(4), states);
        due("value() behind '" + text + "'", x.value(), works);
    }

    private void faults() {
        begin("23, FAULT");
        x.input(1);
        fault("", 0);
        fault("    ", 4);
        fault(";", 0);
        fault("c", 1);
        fault("c ", 2);
        fault("c;;", 2);
        fault("c;c", 3);
        fault("u1;u2;x", 6);
        fault("C;", 0);
        fault("c1;", 1);
        fault("v 1;", 2);
        fault("u;", 1);
        fault("u ;", 2);
        fault("u", 1);
        fault("u1", 2);
        fault("u1 ", 3);
        fault("u1 2;", 3);
        fault("u-1;", 1);
        fault("u123456", 7);
        fault("u1234567;", 7);
        fault("u0000001;", 7);
        fault("i0;", 2);
        fault("i12;", 3);
        fault("i0 ;", 3);
        fault("i0 1", 4);
        fault("i0 1 2;", 5);
        fault("i0,1;", 2);
        fault("t1 0000000;", 9);
        fault("t1234567 0;", 7);
        refusedOnly(0);
        due("count(6)", x.count(6), 0);
    }

    private void faultsFarBehind() {
        begin("23, FAULT far behind");
        x.input(1);
        fault("w1\t1;", 2);
        fault("s1;" + (char) 0, 3);
        fault("s1;" + (char) 127, 3);
        fault("u9;s7;u1", 8);
        fault("s9;c c;", 5);
        fault(" ".repeat(119) + "c", 120);
        fault("u" + " ".repeat(119), 120);
        fault("c;".repeat(59) + "c ", 120);
        refusedOnly(0);
        due("count(6)", x.count(6), 0);
    }

    private void refusedOrder(String text, int order) {
        int states = x.told(4);
        long works = x.digest();
        int length = x.told(3);
        due("does() of '" + text + "'", doing(text), -1000 - order);
        due("told(4) behind '" + text + "'", x.told(4), states);
        x.wipes();
        for (int p = 0; p < length; p++) {
            x.type(' ');
        }
        due("digest() behind '" + text + "'", x.digest(), works);
    }

    private void refusedOrders() {
        begin("23, refused ORDERS");
        x.input(31);
        x.lays(977);
        refusedOrder("i6 0;", 0);
        refusedOrder("i0 10;", 0);
        refusedOrder("s7;", 0);
        refusedOrder("u0;", 0);
        refusedOrder("u100;", 0);
        refusedOrder("d0;", 0);
        refusedOrder("d100;", 0);
        refusedOrder("t1 2;", 0);
        refusedOrder("w6 1;", 0);
        refusedOrder("w0 0;", 0);
        refusedOrder("w0 10;", 0);
        refusedOrder("r13;", 0);
        refusedOrder("i5 1;s3;u7;w0 1;r2;c;t77 1;d3;s7;c;", 8);
        refusedOrder("u2;r6;v;", 2);
        refusedOrder("i0 0;i1 0;v;u0;", 2);
        refusedOrder("c;".repeat(58) + "u0;", 58);
        refusedOnly(0);
    }

    private void back() {
        begin("24");
        due("back() of none", x.back(), NO);
        due("told(1)", x.told(1), 1);
        for (int n = 1; n <= 7; n++) {
            x.input(n);
        }
        due("told(4), 5 at most", x.told(4), 5);
        for (int n = 6; n >= 2; n--) {
            due("back()", x.back(), n - 2);
            due("count(0)", x.count(0), n);
        }
        due("back(), older ones lost", x.back(), NO);
        due("count(0)", x.count(0), 2);
        x.input(2);
        due("back() to the same", x.back(), 0);
        due("count(0)", x.count(0), 2);
        x.input(8);
        x.input(9);
        x.back();
        x.input(5);
        due("told(4)", x.told(4), 2);
        due("back()", x.back(), 1);
        due("count(0)", x.count(0), 8);
        due("told(1)", x.told(1), 2);
    }

    private void backToAll() {
        begin("24, all but THE TEXT and how often refused");
        x.input(123456);
        x.wears(3, 2);
        x.shifts(4);
        x.reaches(9);
        x.lays(987654321012L);
        x.downs(99);
        long[] ahead = all();
        doing("i0 9;w3 1;w3 2;s2;r3;u8;s0;d5;");
        x.type(128);
        x.divides();
        x.type('c');
        x.back();
        long[] behind = all();
        for (int i = 0; i < ahead.length; i++) {
            due("number " + i + " of all", behind[i], ahead[i]);
        }
        due("told(3)", x.told(3), 31);
        due("told(0)", x.told(0), 1);
        due("told(1)", x.told(1), 1);
    }

    private long[] all() {
        long[] row = new long[8 + 18 + 12 + 7];
        int i = 0;
        for (int what = 0; what < 8; what++) {
            row[i++] = x.count(what);
        }
        for (int d = 0; d < 18; d++) {
            row[i++] = x.drum(d / 3, d % 3);
        }
        for (int k = 0; k < 12; k++) {
            row[i++] = x.wheel(k);
        }
        for (int k = 0; k < 7; k++) {
            row[i++] = x.counter(k);
        }
        return row;
    }

    private void told() {
        begin("25");
        x.sets(9, 9);
        x.sets(9, 9);
        x.wheel(12);
        x.back();
        x.divides();
        for (int p = 0; p < 121; p++) {
            x.type('c');
        }
        x.clears();
        due("told(0)", x.told(0), 3);
        due("told(1)", x.told(1), 2);
        due("told(2)", x.told(2), 1);
        due("told(3)", x.told(3), 120);
        due("told(4)", x.told(4), 1);
        bad("told(-1)", x.told(-1));
        bad("told(5)", x.told(5));
        bad("told(least)", x.told(LEAST));
        bad("told(most)", x.told(MOST));
        due("told(0), its own too", x.told(0), 7);
    }

    private void digest() {
        begin("26");
        long fresh = 2892;
        for (int i = 0; i < 5 + 8 + 18 + 12 + 7 + 2; i++) {
            fresh = 31 * fresh + (i == 9 ? 12 : 0);
        }
        due("digest() of a new object", x.digest(), 31 * fresh + 54);
        due("digest() again", x.digest(), 31 * fresh + 54);
        x.input(314159);
        x.wears(2, 1);
        x.ups(3);
        x.wheel(-1);
        x.type('c');
        long h = 2892;
        for (int what = 0; what < 5; what++) {
            h = 31 * h + x.told(what);
        }
        for (long v : all()) {
            h = 31 * h + v;
        }
        h = 31 * h + 942177L;
        h = 31 * h + 2826531L;
        h = 31 * h + 1L;
        due("digest()", x.digest(), h);
    }
}
