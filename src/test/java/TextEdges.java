/** THE TEXT: how long it may be, which byte can not stand where, what ends too early, which ORDER ends all. */
final class TextEdges extends Edges {
    private static final String LETTERS = "isudctvwr", FIGURES = "0123456789";

    TextEdges(Document document, Check check) {
        super(document, check);
    }

    @Override
    void run() {
        bytesAtMost();
        endedBySemicolon();
        orders();
        figures();
        blanksAnywhere();
        blanksNeeded();
        wholeFirst();
        refusedOrders();
        firstByte();
        endsTooEarly();
        faultDoesNothing();
        typing();
        wiping();
        doing();
    }

    private void does(String text, int want) {
        anew();
        due("does() of '" + text + "'", does(x, text), want);
    }

    private void fault(String text, int place) {
        does(text, -10 - place);
    }

    /** Neither anything that a STATE holds nor what is told is other behind it. */
    private void doesNothing(String text, int want) {
        DrumCrank got = busy();
        due("does() of '" + text + "'", does(got, text), want);
        DrumCrank twin = busy();
        twin.wipes();
        type(twin, text);
        same("told behind does() of '" + text + "'", toldOf(got), toldOf(twin));
        alike("behind does() of '" + text + "'", got, twin);
    }

    private void bytesAtMost() {
        sentence("THE TEXT (120 bytes at most)");
        for (int p = 1; p <= 118; p++) {
            x.type(' ');
        }
        x.type('c');
        due("type(), the 120th", x.type(';'), 120);
        due("type(), the 121st", x.type('x'), FULL);
        due("told(3)", x.told(3), 120);
        due("does(), the 120th byte ends an ORDER", x.does(), 1);
        due("wipes()", x.wipes(), 120);
        due("type(), the first again", x.type('x'), 1);
        does("c;".repeat(60), 60);
        does("r12; ".repeat(24), 24);
    }

    private void endedBySemicolon() {
        sentence("tells ORDERS, each ended by ;");
        does("c;", 1);
        fault("c", 1);
        does("c;c;", 2);
        fault("c;c", 3);
        fault("cc;", 1);
        fault(";", 0);
        fault("c;;", 2);
        fault(";c;", 0);
        fault("u1", 2);
        fault("u1,", 2);
        fault("u1:", 2);
        fault("i0 1i1 1;", 4);
    }

    private void orders() {
        sentence("i d n (as sets), s n (as shifts), u n (as ups), d n (as downs), c (as clears), t n k (as times),"
                + " v (as divides), w d t (as wears), r n (as reaches)");
        for (int d = 0; d <= 5; d += 5) {
            int drum = d;
            as("i " + d + " 0;", y -> y.sets(drum, 0));
            as("i " + d + " 9;", y -> y.sets(drum, 9));
            as("w " + d + " 1;", y -> y.wears(drum, 1));
            as("w " + d + " 9;", y -> y.wears(drum, 9));
        }
        as("s 0;", y -> y.shifts(0));
        as("s 6;", y -> y.shifts(6));
        as("u 1;", y -> y.ups(1));
        as("u 99;", y -> y.ups(99));
        as("d 1;", y -> y.downs(1));
        as("d 99;", y -> y.downs(99));
        as("c;", y -> y.clears());
        as("t 0 0;", y -> y.times(0, 0));
        as("t 999999 0;", y -> y.times(999999, 0));
        as("t 0 1;", y -> y.times(0, 1));
        as("t 999999 1;", y -> y.times(999999, 1));
        as("v;", y -> y.divides());
        as("r 0;", y -> y.reaches(0));
        as("r 12;", y -> y.reaches(12));
    }

    private void as(String text, Call call) {
        DrumCrank got = busy();
        DrumCrank want = busy();
        due("does() of '" + text + "'", does(got, text), 1);
        call.on(want);
        due("told(4) behind '" + text + "'", got.told(4), want.told(4));
        alike("behind '" + text + "'", got, want);
    }

    private void figures() {
        sentence("Numbers have 1 to 6 figures");
        fault("u;", 1);
        does("u1;", 1);
        does("u000001;", 1);
        fault("u0000001;", 7);
        fault("i;", 1);
        fault("i0;", 2);
        fault("i0 ;", 3);
        does("i0 1;", 1);
        does("i000000 000001;", 1);
        fault("i0000000 1;", 7);
        fault("i0 0000001;", 9);
        does("t999999 1;", 1);
        fault("t1000000 1;", 7);
        fault("u-1;", 1);
        fault("u+1;", 1);
        fault("u1.0;", 2);
        does("u000099;", 1);
        due("count(6)", x.count(6), 99);
    }

    private void blanksAnywhere() {
        sentence("blanks (32) may stand anywhere but within a number");
        does("   i   3   7   ;   u   2   ;   c   ;   v   ;   ", 4);
        does("   i   3   7   ;   u   2   ;   ", 2);
        due("value()", x.value(), 14000);
        does(" c;", 1);
        does("c ;", 1);
        does("c; ", 1);
        does("c;" + " ".repeat(118), 1);
        fault("u1 2;", 3);
        fault("u 1 2;", 4);
        fault("t1 2 3;", 5);
        for (char no : new char[] {0, 9, 10, 13, 31, 33, 127}) {
            fault(no + "c;", 0);
            fault("c" + no + ";", 1);
            fault("c;" + no, 2);
            fault("u" + no + "1;", 1);
            fault("i1" + no + "1;", 2);
        }
    }

    private void blanksNeeded() {
        sentence("needed only where figures of two numbers would else stand side by side");
        fault("i01;", 3);
        fault("t123456", 7);
        fault("t123456;", 7);
        fault("w19;", 3);
        does("i0 5;s2;u3;d1;c;t12 1;v;w0 9;r11;", 9);
        due("count(0)", x.count(0), 5);
        due("count(4)", x.count(4), 11);
        due("drum(0, 2)", x.drum(0, 2), 512);
    }

    private void wholeFirst() {
        sentence("THE TEXT is read whole first");
        doesNothing("s7;x", -10 - 3);
        doesNothing("s7;u1", -10 - 5);
        doesNothing("u1;u0;u0000001;", -10 - 13);
        doesNothing("i5 9;u9;" + " ".repeat(111) + "x", -10 - 119);
        doesNothing("s7;u0;", -1000);
    }

    private void refusedOrders() {
        sentence("an ORDER that its call would refuse then ends all, nothing is done");
        String[] texts = {"i6 0;", "i0 10;", "i999999 0;", "i0 999999;", "s7;", "s999999;", "u0;", "u100;", "d0;",
            "d100;", "t0 2;", "t999999 999999;", "w6 1;", "w0 0;", "w0 10;", "w0 33;", "r13;", "r999999;"};
        for (String text : texts) {
            doesNothing(text, -1000);
            doesNothing("i5 9;w1 6;u7;c;t19 1;" + text + "i0 3;", -1000 - 5);
        }
        doesNothing("i1 0;i3 0;i5 0;v;", -1000 - 3);
        doesNothing("r6;v;", -1000 - 1);
        doesNothing("i5 0;i3 0;i1 0;i0 1;c;d1;v;", -1000 - 6);
        does("v;", -1000);
        does("i0 1;v;", 2);
        does("i0 1;w0 1;v;", -1000 - 2);
        does("i0 1;w0 1;w0 1;v;", 4);
        does("i0 1;r6;v;r7;", -1000 - 2);
        does("i0 1;r6;r7;v;", 4);
    }

    /** Each of the 128 bytes behind each beginning: one that can not stand there is the FAULT itself. */
    private void firstByte() {
        sentence("FAULT: the place of the first byte that can not stand there (a seventh figure)");
        behind("", LETTERS + " ");
        behind("  ", LETTERS + " ");
        behind("c;", LETTERS + " ");
        behind("c; ", LETTERS + " ");
        for (char letter : new char[] {'c', 'v'}) {
            behind("" + letter, "; ");
            behind(letter + " ", "; ");
        }
        for (char letter : "surd".toCharArray()) {
            behind("" + letter, FIGURES + " ");
            behind(letter + " ", FIGURES + " ");
            behind(letter + "1", FIGURES + "; ");
            behind(letter + "12345", FIGURES + "; ");
            behind(letter + "123456", "; ");
            behind(letter + "1 ", "; ");
        }
        for (char letter : "itw".toCharArray()) {
            behind("" + letter, FIGURES + " ");
            behind(letter + "1", FIGURES + " ");
            behind(letter + "123456", " ");
            behind(letter + "1 ", FIGURES + " ");
            behind(letter + "1 1", FIGURES + "; ");
            behind(letter + "1 123456", "; ");
            behind(letter + "1 1 ", "; ");
        }
        fault("xc;", 0);
        fault("x x x", 0);
        fault("c;x;c", 2);
        fault("C;", 0);
        fault("u0000000000;", 7);
    }

    private void behind(String text, String can) {
        for (int c = 0; c <= 127; c++) {
            anew();
            int got = does(x, text + (char) c);
            String call = "does() of '" + text + "' and byte " + c;
            if (can.indexOf(c) < 0) {
                due(call, got, -10 - text.length());
            } else if (c == ';' || c == ' ' && text.trim().endsWith(";")) {
                due(call + " is no FAULT", got <= -1000 || got == 1 ? 1 : 0, 1);
            } else {
                due(call, got, -10 - text.length() - 1);
            }
        }
    }

    private void endsTooEarly() {
        sentence("the TEXT's length, if it ends too early (one that is empty or has blanks alone, too)");
        fault("", 0);
        for (int many = 1; many <= 120; many++) {
            fault(" ".repeat(many), many);
        }
        String text = "  i 0 12 ; t 999999 1 ;u1;c;v ";
        for (int length = 0; length <= text.length(); length++) {
            String part = text.substring(0, length);
            if (!part.trim().endsWith(";")) {
                fault(part, length);
            }
        }
        fault("c;".repeat(59) + " c", 120);
        fault(" ".repeat(119) + "u", 120);
        fault("u" + " ".repeat(119), 120);
        fault("u1" + " ".repeat(118), 120);
        fault("i1" + " ".repeat(118), 120);
    }

    private void faultDoesNothing() {
        sentence("If there is one, nothing is done.");
        doesNothing("", -10);
        doesNothing("    ", -14);
        doesNothing("i5 9;w1 6;s0;r1;u7;d2;c;t19 1;v;x", -10 - 32);
        doesNothing("i5 9;w1 6;s0;r1;u7;d2;c;t19 1;v;u", -10 - 33);
        doesNothing("u1;u1234567;", -10 - 10);
    }

    private void typing() {
        sentence("`int type(int c)`: A byte (0 .. 127) comes behind THE TEXT: how many it has. BAD; FULL: 120.");
        due("type(0)", x.type(0), 1);
        due("type(127)", x.type(127), 2);
        due("type(-1)", x.type(-1), BAD);
        due("type(128)", x.type(128), BAD);
        due("told(3)", x.told(3), 2);
        for (int many = 3; many <= 120; many++) {
            due("type(32)", x.type(32), many);
        }
        due("type(0) of 120", x.type(0), FULL);
        due("type(127) of 120", x.type(127), FULL);
        due("told(3)", x.told(3), 120);
        due("told(2)", x.told(2), 2);
        due("does(), byte 0 at place 0", x.does(), -10);
        range("type(c)", 0, 127, (y, c) -> y.type(c));
        refused("type(32) of 120", FULL, y -> typeIntoFull(y, 32));
        DrumCrank y = busy();
        y.type('v');
        due("told(4) behind type()", y.told(4), busy().told(4));
        due("told(3) behind type()", y.told(3), busy().told(3) + 1);
    }

    /** THE TEXT is put back as it was, so that what is left is the refused call. */
    private static int typeIntoFull(DrumCrank y, int c) {
        y.wipes();
        type(y, " ".repeat(120));
        int answer = y.type(c);
        y.wipes();
        type(y, "i0 1;u2;");
        return answer;
    }

    private void wiping() {
        sentence("`int wipes()`: THE TEXT is empty: how many it had.");
        due("wipes() of nothing", x.wipes(), 0);
        x.type('c');
        due("wipes() of one", x.wipes(), 1);
        due("told(3)", x.told(3), 0);
        due("does()", x.does(), -10);
        type(x, "x".repeat(120));
        due("wipes() of 120", x.wipes(), 120);
        due("type(), room again", x.type('c'), 1);
        due("type()", x.type(';'), 2);
        due("does(), nothing left of what it had", x.does(), 1);
        DrumCrank got = busy();
        got.wipes();
        due("told(4) behind wipes()", got.told(4), busy().told(4));
        alike("behind wipes()", got, busy());
    }

    private void doing() {
        sentence("`int does()`: ORDERS are done (THE TEXT stays): how many. S (one STATE for all). -10 less the FAULT"
                + " (no S); -1000 less the number (0 on) of the ORDER that ends all (no S).");
        does("c;", 1);
        does("c;".repeat(60), 60);
        due("told(3)", x.told(3), 120);
        due("told(4), one STATE for all", x.told(4), 1);
        due("does() again", x.does(), 60);
        due("told(4)", x.told(4), 2);
        fault("", 0);
        due("told(4)", x.told(4), 0);
        fault(" ".repeat(120), 120);
        due("told(4)", x.told(4), 0);
        does("v;", -1000);
        due("told(4)", x.told(4), 0);
        due("told(3), THE TEXT stays", x.told(3), 2);
        does("c;".repeat(59) + "v;", -1000 - 59);
        due("told(4)", x.told(4), 0);
        x.input(1);
        due("does() again, with DRUMS that GIVE", x.does(), 60);
        due("told(4)", x.told(4), 2);
        leavesState("does()", y -> y.does());
        DrumCrank y = busy();
        long[] ahead = kept(y);
        due("does() of busy()", y.does(), 2);
        due("drum(0, 0)", y.drum(0, 0), 1);
        y.back();
        same("back() behind does()", kept(y), ahead);
    }
}
