/** A small portrait that stands where the largest one stood answers as one in a new object does. */
public final class LeftoversTest {
    private static final Check CHECK = new Check();

    public static void main(String[] args) {
        CHECK.sentence("Begins anew: another n, other sets, all greys 0, places and tiles as at first, nothing is held");
        compare("begin()", LeftoversTest::begun, () -> Looks.of(2, 1));
        CHECK.sentence("Makes everything as by begin() in a new object");
        compare("load()", LeftoversTest::loaded, () -> Looks.of(2, 1));
        CHECK.sentence("Takes back the last action that is remembered");
        compare("undo()", LeftoversTest::undone, () -> Looks.of(2, 1));
        CHECK.sentence("Replaces the state by the one in a save slot");
        compare("restore()", LeftoversTest::restored, () -> Looks.of(2, 1));
        CHECK.end("LeftoversTest");
    }

    // White, its tiles in other places, most places turned, some held, and each method used.
    private static void fill(PipPortrait x) {
        x.begin(6, 2);
        x.fade(99, 99);
        for (int k = 0; k < 28; k++) x.swap(k, 55 - k);
        for (int k = 0; k < 50; k++) x.turn(k);
        x.swap(6, 49);
        x.flip(6, 12);
        x.flip(0, 0);
        for (int k = 7; k < 56; k += 3) x.hold(k, true);
        x.best(0);
        x.best(1);
        x.ifImproved(20, 0);
        x.least();
        x.worst(0);
        x.fits(0);
        x.runScript(3, 500020206000171399L);
        x.simulate(5, 30);
        x.lay();
        x.swap(6, 47);
        x.improve(2);
        x.best(0);
    }

    private static PipPortrait begun() {
        PipPortrait x = new PipPortrait();
        fill(x);
        x.begin(2, 1);
        return x;
    }

    private static PipPortrait loaded() {
        PipPortrait x = Looks.with("D21");
        fill(x);
        x.load();
        return x;
    }

    private static PipPortrait undone() {
        PipPortrait x = Looks.of(2, 1);
        x.begin(6, 2);
        x.fade(99, 99);
        for (int k = 6; k < 12; k++) x.swap(k, k - 6);
        x.best(0);
        x.worst(0);
        x.ifImproved(3, 0);
        for (int i = 0; i < 8; i++) x.undo();
        return x;
    }

    private static PipPortrait restored() {
        PipPortrait x = Looks.of(2, 1);
        x.save(1);
        fill(x);
        x.restore(1);
        return x;
    }

    private static void both(String call, Looks.Making one, Looks.Making other, Looks.Doing doing) {
        PipPortrait x = one.make(), y = other.make();
        CHECK.same(call, Check.told(() -> doing.on(y)), Check.told(() -> doing.on(x)));
        CHECK.same(call + ", the state behind it", Looks.state(y), Looks.state(x));
    }

    // The answer of the last one of several calls.
    private static int last(int... answers) {
        return answers[answers.length - 1];
    }

    private static int holdAllBut(PipPortrait x, int... free) {
        for (int k = 0; k < 6; k++) {
            boolean held = true;
            for (int one : free) held &= one != k;
            if (held) x.hold(k, true);
        }
        return 0;
    }

    private static void compare(String way, Looks.Making one, Looks.Making other) {
        both(way, one, other, x -> 0);
        for (int grey : new int[] {0, 40, 99}) {
            String shade = way + ", greys " + grey + ", ";
            for (int i = -1; i <= 12; i++) {
                int k = i;
                both(shade + "worst " + k, one, other, x -> last(x.fade(grey, 99), x.worst(k)));
                both(shade + "fits " + k, one, other, x -> last(x.fade(grey, grey), x.fits(k)));
                both(shade + "turn " + k, one, other, x -> x.turn(k));
                both(shade + "swap " + k, one, other, x -> x.swap(0, k));
                both(shade + "hold " + k, one, other, x -> x.hold(k, true));
                both(shade + "tile " + k, one, other, x -> x.tile(k, 2));
                both(shade + "flip " + k, one, other, x -> last(x.fade(grey, 99), x.flip(k % 4, k / 4)));
                both(shade + "gain " + k, one, other, x -> x.gain(20000 + k));
                both(shade + "lay but " + k, one, other, x -> last(x.fade(grey, 99), k >= 0 && k < 6 ? x.hold(k, true) : 0, x.lay()));
                both(shade + "the best, free " + k, one, other, x -> last(x.fade(grey, grey), holdAllBut(x, k), x.best(0)));
                both(shade + "its gain, free " + k, one, other, x -> last(x.fade(grey, grey), holdAllBut(x, k), x.best(1)));
                both(shade + "improve, free " + k, one, other, x -> last(x.fade(grey, 99), holdAllBut(x, k, 5), x.improve(20)));
            }
            both(shade + "least", one, other, x -> last(x.fade(grey, grey), x.least()));
            both(shade + "error", one, other, x -> x.fade(grey, 99));
            both(shade + "if improved", one, other, x -> last(x.fade(grey, 99), x.ifImproved(20, 0)));
            both(shade + "how often", one, other, x -> last(x.fade(grey, 99), x.ifImproved(20, 1)));
            for (long seed = 0; seed < 10; seed++) {
                long s = seed;
                both(shade + "simulate " + seed, one, other, x -> x.simulate(s, 30));
            }
            for (long script : new long[] {206000, 306000, 300060, 606060, 606000, 706000, 840000, 800300, 420000, 500020})
                both(shade + "script " + script, one, other, x -> x.runScript(1, script));
        }
    }
}
