/**
 * Calls that are refused: the exception that the document names, which of two comes where both could,
 * and that nothing is changed. And calls that answer but change nothing.
 */
public final class RefusedTest {
    private static final Check CHECK = new Check();
    private static final Looks.Doing NOTHING = x -> 0;
    private static final int LEAST = Integer.MIN_VALUE;
    private static final int MOST = Integer.MAX_VALUE;
    private static String busy;

    public static void main(String[] args) {
        busy = Looks.whole(Looks::busy, NOTHING);
        texts();
        looks();
        pictures();
        turns();
        swaps();
        flips();
        otherActions();
        undos();
        whatWouldBe();
        scripts();
        slots();
        firstOfTwo();
        nothingIsChanged();
        CHECK.end("RefusedTest");
    }

    private static void index(String call, Looks.Doing doing) { refused(call, Check.INDEX, doing); }
    private static void argument(String call, Looks.Doing doing) { refused(call, Check.ARGUMENT, doing); }
    private static void state(String call, Looks.Doing doing) { refused(call, Check.STATE, doing); }

    private static void refused(String call, String exception, Looks.Doing doing) {
        CHECK.thrown(call, exception, () -> doing.on(Looks.busy()));
        CHECK.same(call + " changes nothing", busy, Looks.whole(Looks::busy, doing));
    }

    private static void refusedBy(String what, String exception, Looks.Making making, Looks.Doing doing) {
        CHECK.thrown(what, exception, () -> doing.on(making.make()));
        CHECK.same(what + " changes nothing", Looks.whole(making, NOTHING), Looks.whole(making, doing));
    }

    private static void texts() {
        CHECK.sentence("IllegalArgumentException if c is out of range");
        for (int c : new int[] {-1, 256, LEAST, MOST, 65536, -65536 + 65}) {
            argument("append(" + c + ")", x -> x.append(c));
            refusedBy("append(" + c + ") to an empty text", Check.ARGUMENT, PipPortrait::new, x -> x.append(c));
        }
        CHECK.sentence("IllegalStateException if the text already has 120 characters");
        for (int c : new int[] {0, 'l', 255}) state("append(" + c + ")", x -> x.append(c));
        CHECK.sentence("IllegalStateException if the text is not a portrait");
        for (String text : new String[] {"", "D", "D2", "d21", "D21t0", "D21t5", "D21x", "D21 ", "D21i00", "D21t56", "D71", "D23"})
            refusedBy("load() of " + text, Check.STATE, () -> Looks.busyWith(text), x -> x.load());
        refusedBy("load() in a new object", Check.STATE, PipPortrait::new, x -> x.load());
        String tooSoon = "D21" + "l".repeat(116) + "i";
        refusedBy("load() of a full text that ends too soon", Check.STATE, () -> Looks.busyWith(tooSoon), x -> x.load());
    }

    private static void looks() {
        CHECK.sentence("IllegalArgumentException if what is not 0 to 10");
        for (int what : new int[] {-1, 11, LEAST, MOST}) argument("about(" + what + ")", x -> x.about(what));
        CHECK.sentence("IndexOutOfBoundsException if there is no such column or row");
        for (int one : new int[] {-1, 4, LEAST, MOST}) index("square(" + one + ", 0, 0)", x -> x.square(one, 0, 0));
        for (int one : new int[] {-1, 3, LEAST, MOST}) index("square(0, " + one + ", 0)", x -> x.square(0, one, 0));
        index("square(4, -1, 0), which would be the square 0", x -> x.square(4, -1, 0));
        index("square(-4, 1, 0), which would be the square 0", x -> x.square(-4, 1, 0));
        index("square(0, 2^30, 0), whose square wraps round to 0", x -> x.square(0, 1 << 30, 0));
        CHECK.sentence("IllegalArgumentException if what is not 0 to 4");
        for (int what : new int[] {-1, 5, LEAST, MOST}) argument("square(3, 2, " + what + ")", x -> x.square(3, 2, what));
        CHECK.sentence("IndexOutOfBoundsException if there is no such place");
        for (int k : new int[] {-1, 6, LEAST, MOST}) index("place(" + k + ", 0)", x -> x.place(k, 0));
        CHECK.sentence("IllegalArgumentException if what is not 0 to 6");
        for (int what : new int[] {-1, 7, LEAST, MOST}) argument("place(5, " + what + ")", x -> x.place(5, what));
        CHECK.sentence("IndexOutOfBoundsException if there is no such tile");
        for (int t : new int[] {-1, 6, LEAST, MOST}) index("tile(" + t + ", 0)", x -> x.tile(t, 0));
        CHECK.sentence("IllegalArgumentException if what is not 0 to 2");
        for (int what : new int[] {-1, 3, LEAST, MOST}) argument("tile(5, " + what + ")", x -> x.tile(5, what));
    }

    private static void pictures() {
        CHECK.sentence("begin: IllegalArgumentException if an argument is out of range");
        for (int n : new int[] {1, 7, 0, -2, LEAST, MOST}) argument("begin(" + n + ", 1)", x -> x.begin(n, 1));
        for (int sets : new int[] {0, 3, -1, LEAST, MOST}) argument("begin(2, " + sets + ")", x -> x.begin(2, sets));
        argument("begin(1, 3)", x -> x.begin(1, 3));
        CHECK.sentence("grey: IndexOutOfBoundsException if there is no such column or row");
        for (int one : new int[] {-1, 4, LEAST, MOST}) index("grey(" + one + ", 0, 50)", x -> x.grey(one, 0, 50));
        for (int one : new int[] {-1, 3, LEAST, MOST}) index("grey(0, " + one + ", 50)", x -> x.grey(0, one, 50));
        CHECK.sentence("IllegalArgumentException if grey is out of range");
        for (int grey : new int[] {-1, 100, LEAST, MOST}) argument("grey(0, 0, " + grey + ")", x -> x.grey(0, 0, grey));
        CHECK.sentence("fade: IllegalArgumentException if an argument is out of range");
        for (int grey : new int[] {-1, 100, LEAST, MOST}) {
            argument("fade(" + grey + ", 50)", x -> x.fade(grey, 50));
            argument("fade(50, " + grey + ")", x -> x.fade(50, grey));
        }
    }

    private static void turns() {
        CHECK.sentence("turn: IndexOutOfBoundsException if there is no such place");
        for (int k : new int[] {-1, 6, LEAST, MOST}) index("turn(" + k + ")", x -> x.turn(k));
        CHECK.sentence("turn: IllegalStateException if it is held");
        state("turn(0)", x -> x.turn(0));
        state("turn(4)", x -> x.turn(4));
    }

    private static void swaps() {
        CHECK.sentence("swap: IndexOutOfBoundsException if there is no such place");
        for (int k : new int[] {-1, 6, LEAST, MOST}) {
            index("swap(" + k + ", 1)", x -> x.swap(k, 1));
            index("swap(1, " + k + ")", x -> x.swap(1, k));
        }
        CHECK.sentence("IllegalArgumentException if both are the same");
        argument("swap(1, 1)", x -> x.swap(1, 1));
        argument("swap(5, 5)", x -> x.swap(5, 5));
        CHECK.sentence("IllegalStateException if any is held");
        state("swap(0, 1), the first one is held", x -> x.swap(0, 1));
        state("swap(1, 0), the other one is held", x -> x.swap(1, 0));
        state("swap(5, 4), the other one is held", x -> x.swap(5, 4));
        state("swap(0, 4), both are held", x -> x.swap(0, 4));
    }

    private static void flips() {
        CHECK.sentence("flip: IndexOutOfBoundsException if there is no such column or row");
        for (int one : new int[] {-1, 4, LEAST, MOST}) index("flip(" + one + ", 0)", x -> x.flip(one, 0));
        for (int one : new int[] {-1, 3, LEAST, MOST}) index("flip(0, " + one + ")", x -> x.flip(0, one));
        index("flip(6, -1), which would be the block 2", x -> x.flip(6, -1));
        CHECK.sentence("IllegalStateException if there is no such block");
        state("flip(3, 0), in the last column", x -> x.flip(3, 0));
        state("flip(0, 2), in the last row", x -> x.flip(0, 2));
        state("flip(3, 2), in the last corner", x -> x.flip(3, 2));
        CHECK.sentence("IllegalStateException if it cannot be flipped");
        state("flip(1, 0), parts of three places", x -> x.flip(1, 0));
        state("flip(1, 1), parts of four places", x -> x.flip(1, 1));
        state("flip(2, 1), one place and parts of two", x -> x.flip(2, 1));
        CHECK.sentence("IllegalStateException if any of its places is held");
        state("flip(0, 0), the upper one is held", x -> x.flip(0, 0));
        state("flip(0, 1), the lower one is held", x -> x.flip(0, 1));
        refusedBy("flip(2, 0), the right one is held", Check.STATE, () -> held(2), x -> x.flip(2, 0));
        refusedBy("flip(2, 0), the left one is held", Check.STATE, () -> held(1), x -> x.flip(2, 0));
    }

    private static PipPortrait held(int k) {
        PipPortrait x = Looks.busy();
        x.hold(k, true);
        return x;
    }

    private static void otherActions() {
        CHECK.sentence("hold: IndexOutOfBoundsException if there is no such place");
        for (int k : new int[] {-1, 6, LEAST, MOST}) {
            index("hold(" + k + ", true)", x -> x.hold(k, true));
            index("hold(" + k + ", false)", x -> x.hold(k, false));
        }
        CHECK.sentence("improve: IllegalArgumentException if most is out of range");
        for (int most : new int[] {0, 21, -1, LEAST, MOST}) argument("improve(" + most + ")", x -> x.improve(most));
    }

    private static void undos() {
        CHECK.sentence("undo: IllegalStateException if none is remembered");
        refusedBy("undo() in a new object", Check.STATE, PipPortrait::new, x -> x.undo());
        refusedBy("undo() behind restore()", Check.STATE, RefusedTest::restored, x -> x.undo());
        refusedBy("undo() behind load()", Check.STATE, RefusedTest::loaded, x -> x.undo());
        refusedBy("undo() behind 14 others", Check.STATE, RefusedTest::undone, x -> x.undo());
    }

    private static PipPortrait restored() {
        PipPortrait x = Looks.busy();
        x.restore(1);
        return x;
    }

    private static PipPortrait loaded() {
        PipPortrait x = Looks.busy();
        x.load();
        return x;
    }

    private static PipPortrait undone() {
        PipPortrait x = Looks.busy();
        for (int i = 0; i < 14; i++) x.undo();
        return x;
    }

    private static void whatWouldBe() {
        CHECK.sentence("IllegalArgumentException if it is no number of a change that is possible");
        int[] none = {-1, LEAST, MOST, 6, 9999, 10000, 10006, 10100, 10101, 10505, 10600, 19999, 20001, 20003, 20005, 20006, 20008, 20012,
            29999, 30000, 30001, 40000};
        for (int change : none) argument("gain(" + change + ")", x -> x.gain(change));
        CHECK.sentence("IllegalArgumentException if what is neither 0 nor 1");
        for (int what : new int[] {-1, 2, LEAST, MOST}) argument("best(" + what + ")", x -> x.best(what));
        CHECK.sentence("IllegalArgumentException if most or what is out of range");
        for (int most : new int[] {0, 21, -1, LEAST, MOST}) argument("ifImproved(" + most + ", 0)", x -> x.ifImproved(most, 0));
        for (int what : new int[] {-1, 2, LEAST, MOST}) argument("ifImproved(1, " + what + ")", x -> x.ifImproved(1, what));
        CHECK.sentence("IndexOutOfBoundsException if there is no place of this rank");
        for (int rank : new int[] {-1, 6, LEAST, MOST}) index("worst(" + rank + ")", x -> x.worst(rank));
        CHECK.sentence("fits: IndexOutOfBoundsException if there is no such tile");
        for (int t : new int[] {-1, 6, LEAST, MOST}) index("fits(" + t + ")", x -> x.fits(t));
    }

    private static void scripts() {
        CHECK.sentence("IllegalArgumentException if n is out of range");
        for (int n : new int[] {0, 4, -1, LEAST, MOST}) argument("runScript(" + n + ", 0)", x -> x.runScript(n, 0));
        CHECK.sentence("or if script is negative");
        for (long script : new long[] {-1, -999999, Long.MIN_VALUE})
            for (int n = 1; n <= 3; n++) {
                int count = n;
                argument("runScript(" + n + ", " + script + ")", x -> x.runScript(count, script));
            }
        CHECK.sentence("or has more than 6 * n digits");
        long[] beyond = {1000000L, 1000000000000L, 1000000000000000000L};
        for (int n = 1; n <= 3; n++) {
            int count = n;
            argument("runScript with a digit too many, n " + n, x -> x.runScript(count, beyond[count - 1]));
            argument("runScript with the most long, n " + n, x -> x.runScript(count, Long.MAX_VALUE));
        }
        CHECK.sentence("IllegalArgumentException if m is out of range");
        for (int m : new int[] {0, 31, -1, LEAST, MOST}) argument("simulate(1, " + m + ")", x -> x.simulate(1, m));
    }

    private static void slots() {
        CHECK.sentence("IndexOutOfBoundsException if there is no such save slot");
        for (int slot : new int[] {-1, 2, LEAST, MOST}) {
            index("save(" + slot + ")", x -> x.save(slot));
            index("restore(" + slot + ")", x -> x.restore(slot));
        }
        CHECK.sentence("IllegalStateException if nothing has been saved in it since the last load");
        for (int slot = 0; slot < 2; slot++) {
            int one = slot;
            refusedBy("restore(" + slot + ") in a new object", Check.STATE, PipPortrait::new, x -> x.restore(one));
            refusedBy("restore(" + slot + ") behind load()", Check.STATE, RefusedTest::loaded, x -> x.restore(one));
            refusedBy("restore(" + slot + "), only the other one is filled", Check.STATE, () -> saved(1 - one), x -> x.restore(one));
        }
    }

    private static PipPortrait saved(int slot) {
        PipPortrait x = Looks.with("D31");
        x.load();
        x.turn(1);
        x.save(slot);
        return x;
    }

    private static void firstOfTwo() {
        CHECK.sentence("If several exceptions apply to a call, the one that its description names first is thrown");
        argument("append(-1) to a full text", x -> x.append(-1));
        argument("append(256) to a full text", x -> x.append(256));
        index("square(4, 0, 5)", x -> x.square(4, 0, 5));
        index("square(0, 3, -1)", x -> x.square(0, 3, -1));
        index("place(6, 7)", x -> x.place(6, 7));
        index("place(-1, -1)", x -> x.place(-1, -1));
        index("tile(6, 3)", x -> x.tile(6, 3));
        index("tile(-1, -1)", x -> x.tile(-1, -1));
        index("grey(4, 0, 100)", x -> x.grey(4, 0, 100));
        index("grey(0, 3, -1)", x -> x.grey(0, 3, -1));
        index("swap(6, 6), both the same", x -> x.swap(6, 6));
        index("swap(-1, -1), both the same", x -> x.swap(-1, -1));
        index("swap(0, 6), the first one is held", x -> x.swap(0, 6));
        index("swap(6, 0), the other one is held", x -> x.swap(6, 0));
        argument("swap(0, 0), held", x -> x.swap(0, 0));
        argument("swap(4, 4), held", x -> x.swap(4, 4));
        index("restore(2) where nothing has been saved", x -> x.restore(2));
        refusedBy("restore(2) in a new object", Check.INDEX, PipPortrait::new, x -> x.restore(2));
        refusedBy("restore(-1) in a new object", Check.INDEX, PipPortrait::new, x -> x.restore(-1));
    }

    private static void same(String call, Looks.Doing doing) {
        CHECK.due(call + " answers", 1, () -> doing.on(Looks.busy()) >= LEAST ? 1 : 0);
        CHECK.same(call, busy, Looks.whole(Looks::busy, doing));
    }

    private static void nothingIsChanged() {
        CHECK.sentence("what would be; these and all following methods up to the save slots change nothing");
        for (int change : new int[] {0, 3, 10001, 10304, 20000, 20002}) same("gain(" + change + ")", x -> x.gain(change));
        for (int what = 0; what < 2; what++) {
            int one = what;
            same("best(" + what + ")", x -> x.best(one));
            same("ifImproved(1, " + what + ")", x -> x.ifImproved(1, one));
            same("ifImproved(20, " + what + ")", x -> x.ifImproved(20, one));
        }
        same("least()", x -> x.least());
        same("worst(5)", x -> x.worst(5));
        same("fits(5)", x -> x.fits(5));
        CHECK.sentence("Runs a script on a copy of the state");
        long[] scripts = {130299, 201000, 302030, 420000, 500020, 603000, 704001, 831010, 999999, 0};
        for (long script : scripts) same("runScript(1, " + script + ")", x -> x.runScript(1, script));
        same("runScript of three", x -> x.runScript(3, 201000420000500020L));
        CHECK.sentence("Simulates m turns on a copy of the state");
        for (long seed = 0; seed < 20; seed++) {
            long one = seed;
            same("simulate(" + seed + ", 30)", x -> x.simulate(one, 30));
        }
        CHECK.sentence("what there is");
        for (int what = 0; what <= 10; what++) {
            int one = what;
            same("about(" + what + ")", x -> x.about(one));
        }
        same("square(3, 2, 4)", x -> x.square(3, 2, 4));
        same("place(5, 6)", x -> x.place(5, 6));
        same("tile(5, 2)", x -> x.tile(5, 2));
        same("errorPosition()", x -> x.errorPosition());
    }
}
