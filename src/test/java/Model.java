import java.util.ArrayList;
import java.util.HashSet;
import java.util.List;
import java.util.Set;
import java.util.regex.Matcher;
import java.util.regex.Pattern;

/**
 * The document once more, word for word and without thrift: CARRIES in two sweeps, TRIALS turned one by
 * one, the FAULT from a pattern. It shares no line with DrumCrank, so that both can be set side by side.
 */
final class Model {
    private static final String NUMBER = "[0-9]{1,6}";
    private static final Pattern TEXT = Pattern.compile("(?: *(?:[cv]|[surd] *" + NUMBER
            + "|[itw] *" + NUMBER + " +" + NUMBER + ") *;)+ *");

    private static final class Engine {
        int[] digit = new int[6];
        List<Set<Integer>> worn = new ArrayList<>();
        int[] wheel = new int[12];
        int[] counter = new int[7];
        int s = 0, c = 12, bell = 0, turns = 0;

        Engine() {
            for (int d = 0; d < 6; d++) {
                worn.add(new HashSet<>());
            }
        }

        Engine copy() {
            Engine e = new Engine();
            e.digit = digit.clone();
            for (int d = 0; d < 6; d++) {
                e.worn.get(d).addAll(worn.get(d));
            }
            e.wheel = wheel.clone();
            e.counter = counter.clone();
            e.s = s;
            e.c = c;
            e.bell = bell;
            e.turns = turns;
            return e;
        }

        int gives(int d) {
            int whole = 0;
            for (int t = 1; t <= 9; t++) {
                if (t <= digit[d] && !worn.get(d).contains(t)) {
                    whole++;
                }
            }
            return whole;
        }

        long value() {
            long sum = 0, power = 1;
            for (int k = 0; k < 12; k++) {
                sum += wheel[k] * power;
                power *= 10;
            }
            return sum;
        }

        void up() {
            boolean[] due = new boolean[13];
            for (int i = 0; i <= 5; i++) {
                wheel[i + s] += gives(i);
                if (wheel[i + s] > 9) {
                    wheel[i + s] -= 10;
                    due[i + s + 1] = true;
                }
            }
            for (int k = s; k <= 11; k++) {
                if (due[k] && k <= s + 5 + c) {
                    wheel[k]++;
                    if (wheel[k] == 10) {
                        wheel[k] = 0;
                        due[k + 1] = true;
                    }
                }
            }
            if (due[12] && 12 <= s + 5 + c) {
                bell++;
            }
            counter[s] = counter[s] == 9 ? 0 : counter[s] + 1;
            turns++;
        }

        void down() {
            boolean[] due = new boolean[13];
            for (int i = 0; i <= 5; i++) {
                wheel[i + s] -= gives(i);
                if (wheel[i + s] < 0) {
                    wheel[i + s] += 10;
                    due[i + s + 1] = true;
                }
            }
            for (int k = s; k <= 11; k++) {
                if (due[k] && k <= s + 5 + c) {
                    wheel[k]--;
                    if (wheel[k] == -1) {
                        wheel[k] = 9;
                        due[k + 1] = true;
                    }
                }
            }
            if (due[12] && 12 <= s + 5 + c) {
                bell++;
            }
            counter[s] = counter[s] == 0 ? 9 : counter[s] - 1;
            turns++;
        }

        int times(int n, int k) {
            int before = turns;
            wheel = new int[12];
            counter = new int[7];
            String figures = new StringBuilder(String.format("%07d", n)).reverse().toString();
            int one = 0;
            for (int place = 0; place < (k == 0 ? 6 : 7); place++) {
                s = place;
                int figure = figures.charAt(place) - '0' + one;
                one = 0;
                if (k == 1 && figure >= 6) {
                    one = 1;
                    for (int i = figure; i < 10; i++) {
                        down();
                    }
                } else {
                    for (int i = 0; i < figure; i++) {
                        up();
                    }
                }
            }
            return turns - before;
        }

        boolean divides() {
            boolean any = false;
            for (int d = 0; d < 6; d++) {
                any |= gives(d) > 0;
            }
            if (!any) {
                return false;
            }
            counter = new int[7];
            for (s = 6; s >= 0; s--) {
                int rangBefore = bell;
                int down = 0;
                while (bell == rangBefore) {
                    if (down == 20) {
                        return false;
                    }
                    down++;
                    down();
                }
                up();
                counter[s] = (down - 1) % 10;
            }
            s = 0;
            return true;
        }

        long trial(int n) {
            Engine e = copy();
            e.wheel = new int[12];
            e.s = 0;
            for (int i = 0; i < n; i++) {
                e.up();
            }
            return e.value();
        }
    }

    private Engine now = new Engine();
    private final List<Engine> states = new ArrayList<>();
    private final int[] refused = new int[3];
    private String text = "";
    private boolean quiet = false;

    private int refuse(int why) {
        if (!quiet) {
            refused[-2 - why]++;
        }
        return why;
    }

    private void leave(Engine before) {
        if (!quiet) {
            states.add(before);
            if (states.size() > 5) {
                states.remove(0);
            }
        }
    }

    private static boolean in(long n, long least, long most) {
        return n >= least && n <= most;
    }

    private static int number(int[] row) {
        int sum = 0;
        for (int k = row.length - 1; k >= 0; k--) {
            sum = 10 * sum + row[k];
        }
        return sum;
    }

    int sets(int d, int n) {
        if (!in(d, 0, 5) || !in(n, 0, 9)) {
            return refuse(-2);
        }
        leave(now.copy());
        int was = now.digit[d];
        now.digit[d] = n;
        return was;
    }

    int input(int v) {
        if (!in(v, 0, 999999)) {
            return refuse(-2);
        }
        leave(now.copy());
        int was = number(now.digit);
        String figures = String.format("%06d", v);
        for (int d = 0; d < 6; d++) {
            now.digit[d] = figures.charAt(5 - d) - '0';
        }
        return was;
    }

    int shifts(int n) {
        if (!in(n, 0, 6)) {
            return refuse(-2);
        }
        leave(now.copy());
        int was = now.s;
        now.s = n;
        return was;
    }

    int reaches(int n) {
        if (!in(n, 0, 12)) {
            return refuse(-2);
        }
        leave(now.copy());
        int was = now.c;
        now.c = n;
        return was;
    }

    int wears(int d, int t) {
        if (!in(d, 0, 5) || !in(t, 1, 9)) {
            return refuse(-2);
        }
        leave(now.copy());
        if (!now.worn.get(d).remove(t)) {
            now.worn.get(d).add(t);
        }
        return now.worn.get(d).size();
    }

    int clears() {
        leave(now.copy());
        int were = 0;
        for (int w : now.wheel) {
            were += w != 0 ? 1 : 0;
        }
        now.wheel = new int[12];
        now.counter = new int[7];
        return were;
    }

    int lays(long v) {
        if (!in(v, 0, 999999999999L)) {
            return refuse(-2);
        }
        leave(now.copy());
        String figures = String.format("%012d", v);
        int others = 0;
        for (int k = 0; k < 12; k++) {
            int figure = figures.charAt(11 - k) - '0';
            others += figure != now.wheel[k] ? 1 : 0;
            now.wheel[k] = figure;
        }
        return others;
    }

    int ups(int n) {
        if (!in(n, 1, 99)) {
            return refuse(-2);
        }
        leave(now.copy());
        int before = now.bell;
        for (int i = 0; i < n; i++) {
            now.up();
        }
        return now.bell - before;
    }

    int downs(int n) {
        if (!in(n, 1, 99)) {
            return refuse(-2);
        }
        leave(now.copy());
        int before = now.bell;
        for (int i = 0; i < n; i++) {
            now.down();
        }
        return now.bell - before;
    }

    int times(int n, int k) {
        if (!in(n, 0, 999999) || !in(k, 0, 1)) {
            return refuse(-2);
        }
        leave(now.copy());
        return now.times(n, k);
    }

    int divides() {
        Engine then = now.copy();
        if (!then.divides()) {
            return refuse(-3);
        }
        leave(now.copy());
        int turns = then.turns - now.turns;
        now = then;
        return turns;
    }

    int turns(int n, int k) {
        if (!in(n, 0, 999999) || !in(k, 0, 1)) {
            return refuse(-2);
        }
        return now.copy().times(n, k);
    }

    int drum(int d, int what) {
        if (!in(d, 0, 5) || !in(what, 0, 2)) {
            return refuse(-2);
        }
        int bits = 0;
        for (int t : now.worn.get(d)) {
            bits += 1 << t;
        }
        return what == 0 ? now.digit[d] : what == 1 ? now.gives(d) : bits;
    }

    int wheel(int k) {
        return in(k, 0, 11) ? now.wheel[k] : refuse(-2);
    }

    long value() {
        return now.value();
    }

    int counter(int k) {
        return in(k, 0, 6) ? now.counter[k] : refuse(-2);
    }

    int count(int what) {
        if (!in(what, 0, 7)) {
            return refuse(-2);
        }
        int given = 0, worn = 0;
        for (int d = 5; d >= 0; d--) {
            given = 10 * given + now.gives(d);
            worn += now.worn.get(d).size();
        }
        return new int[] {number(now.digit), given, number(now.counter), now.s, now.c, now.bell, now.turns,
            worn}[what];
    }

    long trial(int n) {
        return in(n, 1, 99) ? now.trial(n) : refuse(-2);
    }

    int explains(long v, int n, int what) {
        if (!in(v, 0, 999999999999L) || !in(n, 1, 99) || !in(what, 0, 2)) {
            return refuse(-2);
        }
        List<Integer> found = new ArrayList<>();
        for (int d = 0; d < 6; d++) {
            for (int t = 1; t <= 9; t++) {
                Engine e = now.copy();
                for (Set<Integer> worn : e.worn) {
                    worn.clear();
                }
                e.worn.get(d).add(t);
                if (e.trial(n) == v) {
                    found.add(10 * d + t);
                }
            }
        }
        if (what == 0) {
            return found.size();
        }
        return found.isEmpty() ? -1 : found.get(what == 1 ? 0 : found.size() - 1);
    }

    int type(int c) {
        if (!in(c, 0, 127)) {
            return refuse(-2);
        }
        if (text.length() == 120) {
            return refuse(-4);
        }
        text += (char) c;
        return text.length();
    }

    int wipes() {
        int had = text.length();
        text = "";
        return had;
    }

    int does() {
        if (!TEXT.matcher(text).matches()) {
            return -10 - fault();
        }
        Engine before = now.copy();
        quiet = true;
        int refusedOrder = -1;
        String[] told = text.trim().split(";");
        for (int o = 0; o < told.length && refusedOrder < 0; o++) {
            if (order(told[o].trim()) < 0) {
                refusedOrder = o;
            }
        }
        quiet = false;
        if (refusedOrder >= 0) {
            now = before;
            return -1000 - refusedOrder;
        }
        leave(before);
        return told.length;
    }

    private int fault() {
        for (int p = 0; p < text.length(); p++) {
            Matcher m = TEXT.matcher(text.substring(0, p + 1));
            if (!m.matches() && !m.hitEnd()) {
                return p;
            }
        }
        return text.length();
    }

    private int order(String told) {
        String[] numbers = told.substring(1).trim().split(" +");
        int a = numbers[0].isEmpty() ? 0 : Integer.parseInt(numbers[0]);
        int b = numbers.length < 2 ? 0 : Integer.parseInt(numbers[1]);
        switch (told.charAt(0)) {
            case 'i': return sets(a, b);
            case 's': return shifts(a);
            case 'u': return ups(a);
            case 'd': return downs(a);
            case 'c': return clears();
            case 't': return times(a, b);
            case 'v': return divides();
            case 'w': return wears(a, b);
            default: return reaches(a);
        }
    }

    int back() {
        if (states.isEmpty()) {
            return refuse(-3);
        }
        now = states.remove(states.size() - 1);
        return states.size();
    }

    int told(int what) {
        if (!in(what, 0, 4)) {
            return refuse(-2);
        }
        return what == 3 ? text.length() : what == 4 ? states.size() : refused[what];
    }

    long digest() {
        List<Long> all = new ArrayList<>();
        for (int what = 0; what < 5; what++) {
            all.add((long) told(what));
        }
        for (int what = 0; what < 8; what++) {
            all.add((long) count(what));
        }
        for (int i = 0; i < 18; i++) {
            all.add((long) drum(i / 3, i % 3));
        }
        for (int w : now.wheel) {
            all.add((long) w);
        }
        for (int w : now.counter) {
            all.add((long) w);
        }
        all.add(value());
        all.add(trial(9));
        all.add((long) explains(value(), 3, 0));
        long h = 2892;
        for (long v : all) {
            h = 31 * h + v;
        }
        return h;
    }
}
