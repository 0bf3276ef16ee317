import java.util.Random;

/** Long runs of calls, each answer compared with that of the Model; the seeds are fixed. */
public final class ModelTest {
    private static final String LETTERS = "ptsbhlif";

    private final Check check = new Check();
    private final Random random;
    private final int run;
    private final PipPortrait x = new PipPortrait();
    private final Model y = new Model();
    private int calls;

    private ModelTest(int run) {
        this.run = run;
        random = new Random(7000 + run);
    }

    public static void main(String[] args) {
        Check all = new Check();
        for (int run = 0; run < 260; run++) {
            ModelTest one = new ModelTest(run);
            one.go();
            all.holds("run " + run, one.right());
        }
        all.end("ModelTest");
    }

    private boolean right() {
        return wrong == 0;
    }

    private int wrong;

    private void both(String call, Check.Call ours, Check.Call due) {
        if (calls >= 512) return;
        calls++;
        String got = Check.told(ours);
        String want = Check.told(due);
        if (!got.equals(want)) {
            wrong++;
            if (wrong <= 5) System.out.println("run " + run + ", call " + calls + ": " + call + " answered " + got + ", due is " + want);
        }
    }

    private int some(int least, int most) {
        return least + random.nextInt(most - least + 1);
    }

    // Mostly within the range, at times at its ends or beside them.
    private int near(int least, int most) {
        int dice = random.nextInt(40);
        if (dice == 0) return least - 1;
        if (dice == 1) return most + 1;
        if (dice == 2) return random.nextInt();
        if (dice == 3) return most;
        return some(least, most);
    }

    private void go() {
        // The model's best changes are slow; large portraits get fewer of them.
        while (calls < 512 && wrong == 0) step();
        lookAtAll();
    }

    private int tiles() { return x.about(4); }
    private boolean dear() { return tiles() > 15 && random.nextInt(tiles() > 28 ? 40 : 12) != 0; }

    private void step() {
        switch (random.nextInt(30)) {
            case 0: case 1: spell(); break;
            case 2: { int a = near(0, 10); both("about(" + a + ")", () -> x.about(a), () -> y.about(a)); break; }
            case 3: { int a = near(0, x.about(2) - 1), b = near(0, x.about(3) - 1), c = near(0, 4);
                both("square(" + a + ", " + b + ", " + c + ")", () -> x.square(a, b, c), () -> y.square(a, b, c)); break; }
            case 4: { int a = near(0, tiles() - 1), b = near(0, 6);
                both("place(" + a + ", " + b + ")", () -> x.place(a, b), () -> y.place(a, b)); break; }
            case 5: { int a = near(0, tiles() - 1), b = near(0, 2);
                both("tile(" + a + ", " + b + ")", () -> x.tile(a, b), () -> y.tile(a, b)); break; }
            case 6: if (random.nextInt(4) == 0) { int a = near(2, random.nextBoolean() ? 3 : 6), b = near(1, 2);
                both("begin(" + a + ", " + b + ")", () -> x.begin(a, b), () -> y.begin(a, b)); } break;
            case 7: case 8: case 9: { int a = near(0, x.about(2) - 1), b = near(0, x.about(3) - 1), c = near(0, 99);
                both("grey(" + a + ", " + b + ", " + c + ")", () -> x.grey(a, b, c), () -> y.grey(a, b, c)); break; }
            case 10: if (random.nextInt(4) == 0) { int a = near(0, 99), b = near(0, 99);
                both("fade(" + a + ", " + b + ")", () -> x.fade(a, b), () -> y.fade(a, b)); } break;
            case 11: { int a = near(0, tiles() - 1); both("turn(" + a + ")", () -> x.turn(a), () -> y.turn(a)); break; }
            case 12: case 13: { int a = near(0, tiles() - 1), b = near(0, tiles() - 1);
                both("swap(" + a + ", " + b + ")", () -> x.swap(a, b), () -> y.swap(a, b)); break; }
            case 14: case 15: case 16: { int a = near(0, x.about(2) - 1), b = near(0, x.about(3) - 1);
                both("flip(" + a + ", " + b + ")", () -> x.flip(a, b), () -> y.flip(a, b)); break; }
            case 17: { int a = near(0, tiles() - 1); boolean b = random.nextInt(3) == 0;
                both("hold(" + a + ", " + b + ")", () -> x.hold(a, b), () -> y.hold(a, b)); break; }
            case 18: if (random.nextInt(4) == 0) both("lay()", x::lay, y::lay); break;
            case 19: if (!dear()) { int a = near(1, tiles() > 15 ? 3 : 20); if (tiles() <= 15 || a < 4)
                both("improve(" + a + ")", () -> x.improve(a), () -> y.improve(a)); } break;
            case 20: both("undo()", x::undo, y::undo); break;
            case 21: { int a = change(); both("gain(" + a + ")", () -> x.gain(a), () -> y.gain(a)); break; }
            case 22: if (!dear()) { int a = near(0, 1); both("best(" + a + ")", () -> x.best(a), () -> y.best(a)); } break;
            case 23: if (!dear()) { int a = near(1, tiles() > 15 ? 3 : 20), b = near(0, 1); if (tiles() <= 15 || a < 4)
                both("ifImproved(" + a + ", " + b + ")", () -> x.ifImproved(a, b), () -> y.ifImproved(a, b)); } break;
            case 24: both("least()", x::least, y::least); break;
            case 25: { int a = near(0, tiles() - 1); both("worst(" + a + ")", () -> x.worst(a), () -> y.worst(a)); break; }
            case 26: { int a = near(0, tiles() - 1); both("fits(" + a + ")", () -> x.fits(a), () -> y.fits(a)); break; }
            case 27: script(); break;
            case 28: if (!dear()) { long a = random.nextLong(); int b = near(1, tiles() > 15 ? 5 : 30); if (tiles() <= 15 || b < 8)
                both("simulate(" + a + ", " + b + ")", () -> x.simulate(a, b), () -> y.simulate(a, b)); } break;
            default: slots(); break;
        }
    }

    private void slots() {
        int a = near(0, 1);
        if (random.nextInt(3) == 0) both("restore(" + a + ")", () -> x.restore(a), () -> y.restore(a));
        else both("save(" + a + ")", () -> x.save(a), () -> y.save(a));
    }

    private int change() {
        int tiles = tiles();
        switch (random.nextInt(10)) {
            case 0: return near(0, tiles - 1);
            case 1: return near(0, 31000);
            case 2: return 10000 + 100 * near(0, 60) + near(0, 60);
            case 3: case 4: case 5: return 10000 + 100 * some(0, tiles - 1) + some(0, tiles - 1);
            default: return 20000 + near(0, 2 * tiles - 1);
        }
    }

    private void script() {
        int n = near(1, 3);
        long script = 0;
        int groups = n < 1 || n > 3 ? some(1, 3) : n;
        for (int i = 0; i < groups; i++) script = script * 1000000 + group();
        if (random.nextInt(30) == 0) script = random.nextLong();
        long a = script;
        both("runScript(" + n + ", " + a + ")", () -> x.runScript(n, a), () -> y.runScript(n, a));
    }

    private int group() {
        int k = some(0, tiles()), l = some(0, tiles());
        int column = some(0, x.about(2)), row = some(0, x.about(3));
        int spoilt = random.nextInt(12) == 0 ? some(1, 9) : 0;
        switch (random.nextInt(11)) {
            case 0: return 100000 + 10000 * column + 100 * row + some(0, 99);
            case 1: return 200000 + 1000 * k + spoilt * some(1, 100);
            case 2: return 300000 + 1000 * k + 10 * l + spoilt;
            case 3: return 400000 + 10000 * column + 100 * row + spoilt * some(1, 10);
            case 4: return 500000 + (dear() ? 0 : some(0, tiles() > 15 ? 2 : 21)) + (spoilt == 0 ? 0 : 100 * spoilt);
            case 5: return 600000 + 1000 * k + 10 * (k < tiles() && random.nextBoolean() ? x.place(k, 2) : l) + spoilt;
            case 6: return 700000 + 1000 * k + some(0, 2) + 10 * spoilt;
            case 7: return 800000 + 10000 * column + 100 * row + 10 * some(0, x.about(0)) + spoilt;
            case 8: return 900000 + Math.max(0, Math.min(99999, x.about(5) + some(-2, 2)));
            case 9: return 900000 + some(0, 99999);
            default: return some(0, 999999);
        }
    }

    // A text, then a look at it, and often a load.
    private void spell() {
        if (calls > 512 - 125 || random.nextInt(8) != 0) return;
        if (random.nextInt(6) != 0) both("clearText()", x::clearText, y::clearText);
        int limit = 3 + random.nextInt(random.nextInt(3) == 0 ? 118 : 40);
        StringBuilder text = new StringBuilder("D").append(some(2, 4)).append(some(1, 2));
        while (text.length() < limit) text.append(command());
        if (random.nextInt(3) == 0) text.setCharAt(random.nextInt(text.length()), (char) (random.nextBoolean() ? some(0, 255) : some('0', '9')));
        if (random.nextInt(5) == 0) text.setLength(random.nextInt(text.length()));
        for (int i = 0; i < text.length() && i < 122; i++) {
            int c = text.charAt(i);
            both("append(" + c + ")", () -> x.append(c), () -> y.append(c));
        }
        if (random.nextInt(9) == 0) { int c = near(0, 255); both("append(" + c + ")", () -> x.append(c), () -> y.append(c)); }
        both("errorPosition() of " + text, x::errorPosition, y::errorPosition);
        both("load() of " + text, x::load, y::load);
        both("errorPosition()", x::errorPosition, y::errorPosition);
        both("about(10)", () -> x.about(10), () -> y.about(10));
        both("about(5)", () -> x.about(5), () -> y.about(5));
    }

    private String command() {
        String place = two(some(0, random.nextInt(5) == 0 ? 55 : 15));
        String other = two(some(0, random.nextInt(5) == 0 ? 55 : 15));
        String square = some(0, random.nextInt(5) == 0 ? 7 : 4) + two(some(0, random.nextInt(5) == 0 ? 13 : 5));
        switch (LETTERS.charAt(random.nextInt(LETTERS.length()))) {
            case 'p': return "p" + square + two(some(0, 99));
            case 't': return "t" + place;
            case 's': return "s" + place + other;
            case 'b': return "b" + square;
            case 'h': return "h" + place;
            case 'l': return "l";
            case 'i': return "i" + two(some(1, random.nextInt(6) == 0 ? 20 : 3));
            default: return "f" + two(some(0, 99)) + two(some(0, 99));
        }
    }

    private static String two(int number) {
        return number < 10 ? "0" + number : Integer.toString(number);
    }

    // Looks are no calls that the limit of 512 would count here: they come at the end of the run.
    private void lookAtAll() {
        calls = 0;
        for (int what = 0; what <= 10; what++) { int w = what; both("at the end, about(" + w + ")", () -> x.about(w), () -> y.about(w)); }
        for (int k = 0; k < tiles() && k < 56; k++)
            for (int what = 0; what <= 6; what++) { int a = k, w = what; both("at the end, place(" + a + ", " + w + ")", () -> x.place(a, w), () -> y.place(a, w)); }
    }
}
