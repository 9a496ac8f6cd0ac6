import java.util.Arrays;

/**
 * A reckoner with stepped drums: the numbered promises of DOC.md.
 *
 * The works (all that a STATE holds) stand in one object; a call that leaves a
 * STATE copies the works first, so that what was can be kept or given back.
 * All rows are made by the constructor: no call makes an object.
 */
public final class DrumCrank {
    public static final int NONE = -1, BAD = -2, NO = -3, FULL = -4;

    private static final int DRUMS = 6, TEETH = 9, WHEELS = 12, COUNTERS = 7;
    private static final int MOST_SHIFT = 6, MOST_REACH = 12, MOST_TURNS = 99, MOST_TURNS_TO_BELL = 20;
    private static final int MOST_NUMBER = 999999;
    private static final long MOST_VALUE = 999999999999L;
    private static final int LONG = 0, SHORT = 1;
    private static final int UP = 1, DOWN = -1;
    private static final int MOST_STATES = 5, MOST_BYTES = 120, MOST_ORDERS = 60, MOST_FIGURES = 6;
    private static final int FAULT_FROM = -10, REFUSED_ORDER_FROM = -1000;
    private static final long DIGEST_START = 2892L;

    private final Works now = new Works();
    private final Works ahead = new Works();
    private final States states = new States();
    private final Text text = new Text();
    private final Orders orders = new Orders();
    private int timesBad, timesNo, timesFull;

    public DrumCrank() {
    }

    // ---- what is told in

    public int sets(int d, int n) {
        remember();
        return settled(now.setDrum(d, n));
    }

    public int input(int v) {
        remember();
        return settled(now.setDrums(v));
    }

    public int shifts(int n) {
        remember();
        return settled(now.setShift(n));
    }

    public int reaches(int n) {
        remember();
        return settled(now.setReach(n));
    }

    public int wears(int d, int t) {
        remember();
        return settled(now.wearTooth(d, t));
    }

    public int clears() {
        remember();
        return settled(now.clearAll());
    }

    public int lays(long v) {
        remember();
        return settled(now.layWheels(v));
    }

    // ---- turns

    public int ups(int n) {
        remember();
        return settled(now.turnOften(n, UP));
    }

    public int downs(int n) {
        remember();
        return settled(now.turnOften(n, DOWN));
    }

    public int times(int n, int k) {
        remember();
        return settled(now.multiply(n, k));
    }

    public int divides() {
        remember();
        return settled(now.divide());
    }

    public int turns(int n, int k) {
        return counted(turnsToMultiply(n, k));
    }

    // ---- what is told

    public int drum(int d, int what) {
        return counted(now.tellDrum(d, what));
    }

    public int wheel(int k) {
        return counted(within(k, 0, WHEELS - 1) ? now.wheels[k] : BAD);
    }

    public long value() {
        return number(now.wheels);
    }

    public int counter(int k) {
        return counted(within(k, 0, COUNTERS - 1) ? now.counters[k] : BAD);
    }

    public int count(int what) {
        return counted(now.tellCount(what));
    }

    public long trial(int n) {
        if (!within(n, 1, MOST_TURNS)) {
            return counted(BAD);
        }
        return now.tried(now.numberGiven(), n);
    }

    public int explains(long v, int n, int what) {
        if (!within(v, 0, MOST_VALUE) || !within(n, 1, MOST_TURNS) || !within(what, 0, 2)) {
            return counted(BAD);
        }
        return now.explain(v, n, what);
    }

    // ---- texts

    public int type(int c) {
        return counted(text.add(c));
    }

    public int wipes() {
        return text.empty();
    }

    public int does() {
        int fault = orders.read(text);
        if (fault != NONE) {
            return FAULT_FROM - fault;
        }
        remember();
        for (int o = 0; o < orders.size; o++) {
            if (perform(orders.letters[o], orders.firsts[o], orders.seconds[o]) < 0) {
                now.copyFrom(ahead);
                return REFUSED_ORDER_FROM - o;
            }
        }
        states.keep(ahead);
        return orders.size;
    }

    public int back() {
        if (states.size == 0) {
            return counted(NO);
        }
        states.giveBackTo(now);
        return states.size;
    }

    public int told(int what) {
        switch (what) {
            case 0: return timesBad;
            case 1: return timesNo;
            case 2: return timesFull;
            case 3: return text.length;
            case 4: return states.size;
            default: return counted(BAD);
        }
    }

    public long digest() {
        long h = DIGEST_START;
        for (int what = 0; what <= 4; what++) {
            h = 31 * h + told(what);
        }
        for (int what = 0; what <= 7; what++) {
            h = 31 * h + count(what);
        }
        for (int d = 0; d < DRUMS; d++) {
            for (int what = 0; what <= 2; what++) {
                h = 31 * h + drum(d, what);
            }
        }
        for (int k = 0; k < WHEELS; k++) {
            h = 31 * h + wheel(k);
        }
        for (int k = 0; k < COUNTERS; k++) {
            h = 31 * h + counter(k);
        }
        h = 31 * h + value();
        h = 31 * h + trial(9);
        return 31 * h + explains(value(), 3, 0);
    }

    // ---- refusals and states

    private void remember() {
        ahead.copyFrom(now);
    }

    /** Ends a call that leaves a STATE; a refused one may have begun to turn, so the works are put back. */
    private int settled(int answer) {
        if (answer < 0) {
            now.copyFrom(ahead);
            return counted(answer);
        }
        states.keep(ahead);
        return answer;
    }

    private int counted(int answer) {
        if (answer == BAD) {
            timesBad++;
        } else if (answer == NO) {
            timesNo++;
        } else if (answer == FULL) {
            timesFull++;
        }
        return answer;
    }

    /** Does one ORDER without counting a refusal and without leaving a STATE. */
    private int perform(int letter, int first, int second) {
        switch (letter) {
            case 'i': return now.setDrum(first, second);
            case 's': return now.setShift(first);
            case 'u': return now.turnOften(first, UP);
            case 'd': return now.turnOften(first, DOWN);
            case 'c': return now.clearAll();
            case 't': return now.multiply(first, second);
            case 'v': return now.divide();
            case 'w': return now.wearTooth(first, second);
            case 'r': return now.setReach(first);
            default: return BAD;
        }
    }

    // ---- numbers and figures

    private static boolean within(long n, long least, long most) {
        return least <= n && n <= most;
    }

    private static long number(int[] figures) {
        long sum = 0;
        for (int k = figures.length - 1; k >= 0; k--) {
            sum = sum * 10 + figures[k];
        }
        return sum;
    }

    /** Puts the figures of v into the row: how many became others. */
    private static int putFigures(int[] row, long v) {
        int others = 0;
        long rest = v;
        for (int k = 0; k < row.length; k++) {
            int figure = (int) (rest % 10);
            rest = rest / 10;
            if (row[k] != figure) {
                others++;
            }
            row[k] = figure;
        }
        return others;
    }

    // ---- the plan of a product

    private static boolean canMultiply(int n, int k) {
        return within(n, 0, MOST_NUMBER) && within(k, LONG, SHORT);
    }

    private static int figuresToMultiply(int k) {
        return k == SHORT ? DRUMS + 1 : DRUMS;
    }

    /** The TURNS for the lowest figure of what is left of n: above 0 up, below 0 down. */
    private static int turnsForFigure(int left, int k) {
        int figure = left % 10;
        return k == SHORT && figure > 5 ? figure - 10 : figure;
    }

    /** Turns down leave more than the figure's own share: that is the 1 due to the next figure. */
    private static int leftBehindFigure(int left, int turns) {
        return (left - turns) / 10;
    }

    private static int turnsToMultiply(int n, int k) {
        if (!canMultiply(n, k)) {
            return BAD;
        }
        int sum = 0;
        int left = n;
        for (int place = 0; place < figuresToMultiply(k); place++) {
            int turns = turnsForFigure(left, k);
            left = leftBehindFigure(left, turns);
            sum += Math.abs(turns);
        }
        return sum;
    }

    /** DRUMS, WHEELS, COUNTERS and all else that a STATE holds. */
    private static final class Works {
        final int[] digits = new int[DRUMS];
        final int[] worn = new int[DRUMS];
        final int[] wheels = new int[WHEELS];
        final int[] counters = new int[COUNTERS];
        int shift = 0;
        int reach = MOST_REACH;
        int bell = 0;
        int turned = 0;

        void copyFrom(Works other) {
            System.arraycopy(other.digits, 0, digits, 0, DRUMS);
            System.arraycopy(other.worn, 0, worn, 0, DRUMS);
            System.arraycopy(other.wheels, 0, wheels, 0, WHEELS);
            System.arraycopy(other.counters, 0, counters, 0, COUNTERS);
            shift = other.shift;
            reach = other.reach;
            bell = other.bell;
            turned = other.turned;
        }

        int setDrum(int d, int n) {
            if (!within(d, 0, DRUMS - 1) || !within(n, 0, 9)) {
                return BAD;
            }
            int was = digits[d];
            digits[d] = n;
            return was;
        }

        int setDrums(int v) {
            if (!within(v, 0, MOST_NUMBER)) {
                return BAD;
            }
            int was = (int) number(digits);
            putFigures(digits, v);
            return was;
        }

        int setShift(int n) {
            if (!within(n, 0, MOST_SHIFT)) {
                return BAD;
            }
            int was = shift;
            shift = n;
            return was;
        }

        int setReach(int n) {
            if (!within(n, 0, MOST_REACH)) {
                return BAD;
            }
            int was = reach;
            reach = n;
            return was;
        }

        int wearTooth(int d, int t) {
            if (!within(d, 0, DRUMS - 1) || !within(t, 1, TEETH)) {
                return BAD;
            }
            worn[d] ^= 1 << t;
            return Integer.bitCount(worn[d]);
        }

        int clearAll() {
            Arrays.fill(counters, 0);
            return putFigures(wheels, 0);
        }

        int layWheels(long v) {
            return within(v, 0, MOST_VALUE) ? putFigures(wheels, v) : BAD;
        }

        int turnOften(int n, int way) {
            if (!within(n, 1, MOST_TURNS)) {
                return BAD;
            }
            int rangAhead = bell;
            for (int i = 0; i < n; i++) {
                turnOnce(way, way);
            }
            return bell - rangAhead;
        }

        int multiply(int n, int k) {
            if (!canMultiply(n, k)) {
                return BAD;
            }
            int turnedAhead = turned;
            clearAll();
            int left = n;
            for (int place = 0; place < figuresToMultiply(k); place++) {
                shift = place;
                int turns = turnsForFigure(left, k);
                left = leftBehindFigure(left, turns);
                int way = turns < 0 ? DOWN : UP;
                for (int i = 0; i < Math.abs(turns); i++) {
                    turnOnce(way, way);
                }
            }
            return turned - turnedAhead;
        }

        /** May stop with NO half-way: whoever calls it puts the works back then. */
        int divide() {
            if (numberGiven() == 0) {
                return NO;
            }
            int turnedAhead = turned;
            Arrays.fill(counters, 0);
            for (int s = MOST_SHIFT; s >= 0; s--) {
                shift = s;
                if (!turnDownTillBell()) {
                    return NO;
                }
                turnOnce(UP, -1);
            }
            return turned - turnedAhead;
        }

        private boolean turnDownTillBell() {
            for (int i = 0; i < MOST_TURNS_TO_BELL; i++) {
                if (turnOnce(DOWN, 1)) {
                    return true;
                }
            }
            return false;
        }

        /**
         * One TURN, the COUNTER moved by counting: whether the BELL rang. No WHEEL ever gets two
         * CARRIES in one TURN (9 and 9 and 1 are below 20), so drum and CARRY are put on in one go.
         */
        private boolean turnOnce(int way, int counting) {
            int lastReached = shift + DRUMS - 1 + reach;
            int carry = 0;
            for (int k = shift; k < WHEELS; k++) {
                boolean underDrum = k < shift + DRUMS;
                if (!underDrum && (carry == 0 || k > lastReached)) {
                    break;
                }
                int figure = wheels[k] + way * ((underDrum ? given(k - shift) : 0) + carry);
                carry = figure < 0 || figure > 9 ? 1 : 0;
                wheels[k] = figure - way * 10 * carry;
            }
            counters[shift] = (counters[shift] + counting + 10) % 10;
            turned++;
            // A CARRY that stopped short of WHEEL 11 stopped because its reach ends there.
            boolean rang = carry == 1 && WHEELS <= lastReached;
            if (rang) {
                bell++;
            }
            return rang;
        }

        private int given(int d) {
            int upToDigit = (2 << digits[d]) - 1;
            return digits[d] - Integer.bitCount(worn[d] & upToDigit);
        }

        int numberGiven() {
            int sum = 0;
            for (int d = DRUMS - 1; d >= 0; d--) {
                sum = sum * 10 + given(d);
            }
            return sum;
        }

        int tellDrum(int d, int what) {
            if (!within(d, 0, DRUMS - 1)) {
                return BAD;
            }
            switch (what) {
                case 0: return digits[d];
                case 1: return given(d);
                case 2: return worn[d];
                default: return BAD;
            }
        }

        int tellCount(int what) {
            switch (what) {
                case 0: return (int) number(digits);
                case 1: return numberGiven();
                case 2: return (int) number(counters);
                case 3: return shift;
                case 4: return reach;
                case 5: return bell;
                case 6: return turned;
                case 7: return wornTeeth();
                default: return BAD;
            }
        }

        private int wornTeeth() {
            int sum = 0;
            for (int d = 0; d < DRUMS; d++) {
                sum += Integer.bitCount(worn[d]);
            }
            return sum;
        }

        /**
         * The VALUE behind n TURNS up of what is given, from 0 and at SHIFT 0. CARRIES are whole up to
         * WHEEL 5 + REACH and lost behind it, so the sum is cut there; it never has more than 8 figures.
         */
        long tried(int numberGiven, int n) {
            long sum = (long) numberGiven * n;
            if (reach == 0) {
                return sum % 1000000;
            }
            return reach == 1 ? sum % 10000000 : sum;
        }

        /** Of the TEETH, each taken to be alone WORN: how many, the least or the greatest that tries to v. */
        int explain(long v, int n, int what) {
            int allWhole = (int) number(digits);
            int many = 0;
            int least = NONE;
            int greatest = NONE;
            int place = 1;
            for (int d = 0; d < DRUMS; d++) {
                for (int t = 1; t <= TEETH; t++) {
                    int givenThen = t <= digits[d] ? allWhole - place : allWhole;
                    if (tried(givenThen, n) == v) {
                        many++;
                        greatest = 10 * d + t;
                        least = least == NONE ? greatest : least;
                    }
                }
                place *= 10;
            }
            if (what == 0) {
                return many;
            }
            return what == 1 ? least : greatest;
        }
    }

    /** The STATES to go back to, in a ring: the oldest place is taken again when all are full. */
    private static final class States {
        private final Works[] ring = new Works[MOST_STATES];
        private int next = 0;
        int size = 0;

        States() {
            for (int i = 0; i < MOST_STATES; i++) {
                ring[i] = new Works();
            }
        }

        void keep(Works works) {
            ring[next].copyFrom(works);
            next = (next + 1) % MOST_STATES;
            size = Math.min(size + 1, MOST_STATES);
        }

        void giveBackTo(Works works) {
            if (size == 0) {
                return;
            }
            next = (next + MOST_STATES - 1) % MOST_STATES;
            size--;
            works.copyFrom(ring[next]);
        }
    }

    /** THE TEXT as it was typed. */
    private static final class Text {
        private final byte[] bytes = new byte[MOST_BYTES];
        int length = 0;

        int add(int c) {
            if (!within(c, 0, 127)) {
                return BAD;
            }
            if (length >= MOST_BYTES) {
                return FULL;
            }
            bytes[length] = (byte) c;
            length++;
            return length;
        }

        int empty() {
            int had = length;
            length = 0;
            return had;
        }

        /** The byte at a place, or NONE behind the end. */
        int at(int place) {
            return within(place, 0, length - 1) ? bytes[place] : NONE;
        }
    }

    /** The ORDERS that THE TEXT tells; where reading stops for good, there the FAULT is. */
    private static final class Orders {
        final int[] letters = new int[MOST_ORDERS];
        final int[] firsts = new int[MOST_ORDERS];
        final int[] seconds = new int[MOST_ORDERS];
        int size = 0;
        private int place;
        private int lastNumber;

        /** Reads all ORDERS: the FAULT, or NONE. */
        int read(Text text) {
            place = 0;
            // An ORDER has two bytes or more, so a full TEXT has no more than MOST_ORDERS.
            for (int o = 0; o < MOST_ORDERS; o++) {
                if (!readOrder(text, o)) {
                    return place;
                }
                size = o + 1;
                skipBlanks(text);
                if (place >= text.length) {
                    return NONE;
                }
            }
            return place;
        }

        private boolean readOrder(Text text, int o) {
            skipBlanks(text);
            int letter = text.at(place);
            int numbers = numbersOf(letter);
            if (numbers == NONE) {
                return false;
            }
            place++;
            letters[o] = letter;
            if (numbers >= 1) {
                if (!readNumber(text)) {
                    return false;
                }
                firsts[o] = lastNumber;
            }
            if (numbers >= 2) {
                if (!readNumber(text)) {
                    return false;
                }
                seconds[o] = lastNumber;
            }
            skipBlanks(text);
            if (text.at(place) != ';') {
                return false;
            }
            place++;
            return true;
        }

        private boolean readNumber(Text text) {
            skipBlanks(text);
            lastNumber = 0;
            int figures = 0;
            while (figures < MOST_FIGURES && isFigure(text.at(place))) {
                lastNumber = lastNumber * 10 + text.at(place) - '0';
                place++;
                figures++;
            }
            return figures > 0 && !isFigure(text.at(place));
        }

        private void skipBlanks(Text text) {
            while (place < text.length && text.at(place) == ' ') {
                place++;
            }
        }

        private static boolean isFigure(int c) {
            return within(c, '0', '9');
        }

        /** How many numbers an ORDER has behind its letter, or NONE where no ORDER has that letter. */
        private static int numbersOf(int letter) {
            switch (letter) {
                case 'c': case 'v': return 0;
                case 's': case 'u': case 'd': case 'r': return 1;
                case 'i': case 't': case 'w': return 2;
                default: return NONE;
            }
        }
    }
}
