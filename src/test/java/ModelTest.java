import java.util.Random;

/** Long runs of drawn calls (the same ones each time) on DrumCrank and on the Model, answer by answer. */
public final class ModelTest {
    private static final int RUNS = 400, CALLS = 512;
    private static final int[] ODD = {Integer.MIN_VALUE, -1000, -2, -1, 10, 12, 13, 100, 1000000, Integer.MAX_VALUE};
    private static final String LETTERS = "isudctvwr";

    private final Random random;
    private final Check check;
    private final DrumCrank crank = new DrumCrank();
    private final Model model = new Model();
    private String call;

    private ModelTest(int seed, Check check) {
        this.random = new Random(seed);
        this.check = check;
    }

    public static void main(String[] args) {
        Check check = new Check();
        for (int run = 0; run < RUNS && !check.anyWrong(); run++) {
            new ModelTest(run, check).run("run " + run);
        }
        check.end();
    }

    private void run(String name) {
        int calls = 0;
        StringBuilder trail = new StringBuilder();
        while (calls < CALLS - 130 && !check.anyWrong()) {
            calls += step(trail);
            if (random.nextInt(3) == 0) {
                call = "digest()";
                due(crank.digest(), model.digest());
                calls++;
            }
        }
        if (check.anyWrong()) {
            System.out.println(name + ":" + trail);
        }
    }

    private void due(long got, long want) {
        check.due(call, got, want);
    }

    /** A number from least to most, or now and then one beside it. */
    private int about(int least, int most) {
        int pick = random.nextInt(25);
        if (pick == 0) {
            return least - 1;
        }
        if (pick == 1) {
            return most + 1;
        }
        if (pick == 2) {
            return ODD[random.nextInt(ODD.length)];
        }
        return within(least, most);
    }

    private int within(int least, int most) {
        int pick = random.nextInt(6);
        return pick == 0 ? least : pick == 1 ? most : least + random.nextInt(most - least + 1);
    }

    private int factor() {
        int pick = random.nextInt(5);
        return pick == 0 ? about(0, 999999) : pick == 1 ? about(0, 30)
                : pick == 2 ? 444444 + random.nextInt(200000) : random.nextInt(1000000);
    }

    private long laid() {
        long power = 1;
        for (int k = random.nextInt(13); k > 0; k--) {
            power *= 10;
        }
        int pick = random.nextInt(20);
        if (pick == 0) {
            return random.nextLong();
        }
        if (pick == 1) {
            return 1000000000000L;
        }
        return pick < 5 ? power - 1 : Math.abs(random.nextLong()) % power;
    }

    private int step(StringBuilder trail) {
        int calls = draw(random.nextInt(30));
        trail.append(' ').append(call);
        return calls;
    }

    private int draw(int pick) {
        switch (pick) {
            case 0: case 1: return twoDrums();
            case 2: case 3: return inputs();
            case 4: return one("shifts", about(0, 6));
            case 5: return one("reaches", random.nextBoolean() ? about(0, 12) : about(4, 8));
            case 6: case 7: return wearing();
            case 8: return one("clears", 0);
            case 9: case 10: return laying();
            case 11: case 12: return one("ups", random.nextBoolean() ? about(1, 99) : about(1, 9));
            case 13: case 14: return one("downs", random.nextBoolean() ? about(1, 99) : about(1, 9));
            case 15: case 16: return multiplying();
            case 17: case 18: case 19: return dividing();
            case 20: return getters();
            case 21: return one("trial", about(1, 99));
            case 22: case 23: return explaining();
            case 24: case 25: case 26: return texts();
            case 27: case 28: return one("back", 0);
            default: return one("told", about(0, 4));
        }
    }

    private int one(String name, int n) {
        call = name + "(" + n + ")";
        switch (name) {
            case "shifts": due(crank.shifts(n), model.shifts(n)); break;
            case "reaches": due(crank.reaches(n), model.reaches(n)); break;
            case "clears": due(crank.clears(), model.clears()); break;
            case "ups": due(crank.ups(n), model.ups(n)); break;
            case "downs": due(crank.downs(n), model.downs(n)); break;
            case "trial": due(crank.trial(n), model.trial(n)); break;
            case "back": due(crank.back(), model.back()); break;
            case "told": due(crank.told(n), model.told(n)); break;
            case "count": due(crank.count(n), model.count(n)); break;
            case "wheel": due(crank.wheel(n), model.wheel(n)); break;
            case "counter": due(crank.counter(n), model.counter(n)); break;
            case "type": due(crank.type(n), model.type(n)); break;
            default: throw new IllegalStateException(name);
        }
        return 1;
    }

    private int twoDrums() {
        int d = about(0, 5);
        int n = about(0, 9);
        call = "sets(" + d + ", " + n + ")";
        due(crank.sets(d, n), model.sets(d, n));
        return 1;
    }

    private int inputs() {
        int v = factor();
        call = "input(" + v + ")";
        due(crank.input(v), model.input(v));
        return 1;
    }

    private int wearing() {
        int d = about(0, 5);
        int t = about(1, 9);
        call = "wears(" + d + ", " + t + ")";
        due(crank.wears(d, t), model.wears(d, t));
        return 1;
    }

    private int laying() {
        long v = laid();
        call = "lays(" + v + ")";
        due(crank.lays(v), model.lays(v));
        return 1;
    }

    private int multiplying() {
        int n = factor();
        int k = about(0, 1);
        call = "turns(" + n + ", " + k + ")";
        due(crank.turns(n, k), model.turns(n, k));
        if (random.nextBoolean()) {
            return 1;
        }
        call = "times(" + n + ", " + k + ")";
        due(crank.times(n, k), model.times(n, k));
        return 2;
    }

    private int dividing() {
        int calls = 1;
        if (random.nextInt(3) > 0) {
            long v = Math.max(1, crank.count(1)) * (long) random.nextInt(21000000);
            long dividend = Math.min(v, 999999999999L);
            call = "lays(" + dividend + ")";
            due(crank.lays(dividend), model.lays(dividend));
            model.count(1);
            calls = 3;
        }
        call = "divides()";
        due(crank.divides(), model.divides());
        return calls;
    }

    private int getters() {
        int d = about(0, 5);
        int what = about(0, 2);
        call = "drum(" + d + ", " + what + ")";
        due(crank.drum(d, what), model.drum(d, what));
        one("wheel", about(0, 11));
        one("counter", about(0, 6));
        one("count", about(0, 7));
        call = "value()";
        due(crank.value(), model.value());
        return 5;
    }

    /** Asks for what the TRIAL of another wear of the same drums would show, so that some TEETH explain it. */
    private int explaining() {
        int n = random.nextInt(4) == 0 ? about(1, 99) : about(1, 9);
        int what = about(0, 2);
        long v = random.nextInt(4) == 0 ? laid() : Math.max(0, model.trial(Math.max(1, Math.min(99, n))));
        if (random.nextInt(3) == 0) {
            v = Math.max(0, model.count(0) - 10L) * n % 10000000;
        }
        call = "explains(" + v + ", " + n + ", " + what + ")";
        due(crank.explains(v, n, what), model.explains(v, n, what));
        return 1;
    }

    private int texts() {
        int calls = 1;
        if (random.nextInt(4) > 0) {
            call = "wipes()";
            due(crank.wipes(), model.wipes());
            calls++;
        }
        String text = drawText();
        for (int p = 0; p < text.length(); p++) {
            one("type", text.charAt(p));
        }
        if (random.nextInt(30) == 0) {
            one("type", about(0, 127));
            calls++;
        }
        due(crank.told(3), model.told(3));
        call = "does() of " + text;
        due(crank.does(), model.does());
        return calls + text.length() + 1;
    }

    private String drawText() {
        StringBuilder text = new StringBuilder();
        int orders = random.nextInt(9);
        boolean fair = random.nextInt(3) > 0;
        for (int o = 0; o < orders; o++) {
            drawOrder(text, fair);
        }
        if (random.nextInt(4) == 0 && text.length() > 0) {
            spoil(text);
        }
        return text.length() > 110 ? text.substring(0, 110) : text.toString();
    }

    private void drawOrder(StringBuilder text, boolean fair) {
        char letter = LETTERS.charAt(random.nextInt(LETTERS.length()));
        blanks(text, 0);
        text.append(letter);
        blanks(text, 0);
        switch (letter) {
            case 's': text.append(part(0, 6, fair)); break;
            case 'r': text.append(part(0, 12, fair)); break;
            case 'u': case 'd': text.append(part(1, 99, fair)); break;
            case 'i': two(text, part(0, 5, fair), part(0, 9, fair)); break;
            case 'w': two(text, part(0, 5, fair), part(1, 9, fair)); break;
            case 't': two(text, random.nextInt(1000000), part(0, 1, fair)); break;
            default: break;
        }
        blanks(text, 0);
        text.append(';');
    }

    private int part(int least, int most, boolean fair) {
        return fair ? within(least, most) : Math.abs(about(least, most) % 2000000);
    }

    private void two(StringBuilder text, int a, int b) {
        text.append(random.nextInt(5) == 0 ? "0" : "").append(a);
        blanks(text, 1);
        text.append(b);
    }

    private void blanks(StringBuilder text, int least) {
        int many = least + Math.max(0, random.nextInt(6) - 3);
        text.append(" ".repeat(many));
    }

    private void spoil(StringBuilder text) {
        int p = random.nextInt(text.length());
        switch (random.nextInt(4)) {
            case 0: text.deleteCharAt(p); break;
            case 1: text.setCharAt(p, (char) random.nextInt(128)); break;
            case 2: text.insert(p, "0123456; isudctvwr".charAt(random.nextInt(18))); break;
            default: text.setLength(p); break;
        }
    }
}
