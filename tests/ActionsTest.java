/** What is remembered, and what save slots keep: nothing there yet, one, as many as fit, one more. */
public final class ActionsTest {
    private static final Check CHECK = new Check();

    public static void main(String[] args) {
        nothingIsRemembered();
        eachIsAnAction();
        fourteenAreRemembered();
        aRingOfStates();
        theOldestIsForgotten();
        undoIsNoAction();
        undoBringsBackAll();
        noActions();
        aNewObjectHasNoSlots();
        slotsKeepTheirState();
        restoreForgets();
        loadEmptiesSlots();
        manyCalls();
        objectsAreTheirOwn();
        CHECK.end("ActionsTest");
    }

    private static void cannotUndo(String what, PipPortrait x) {
        CHECK.thrown("undo() " + what, Check.STATE, () -> x.undo());
    }

    private static void nothingIsRemembered() {
        CHECK.sentence("IllegalStateException if none is remembered");
        cannotUndo("in a new object", new PipPortrait());
        PipPortrait x = new PipPortrait();
        x.turn(0);
        CHECK.due("one is there", 0, () -> x.undo());
        cannotUndo("once more", x);
        cannotUndo("and again", x);
    }

    private static void acts(String call, Looks.Making making, Looks.Doing doing) {
        PipPortrait x = making.make();
        int many = remembered(making.make());
        String before = Looks.state(x);
        doing.on(x);
        CHECK.due(call + " is remembered", many, () -> x.undo());
        CHECK.same(call + " is undone", before, Looks.state(x));
    }

    private static int remembered(PipPortrait x) {
        int count = 0;
        for (int i = 0; i < 20 && !Check.told(x::undo).equals(Check.STATE); i++) count++;
        return count;
    }

    private static PipPortrait allHeld() {
        PipPortrait x = Looks.of(2, 1);
        for (int k = 0; k < 6; k++) x.hold(k, true);
        return x;
    }

    private static void eachIsAnAction() {
        CHECK.sentence("Each call of one of them that does not throw an exception is an action, also if nothing becomes different");
        acts("begin(3, 1), as it is", PipPortrait::new, x -> x.begin(3, 1));
        acts("grey, as it is", PipPortrait::new, x -> x.grey(0, 0, 0));
        acts("fade, as it is", PipPortrait::new, x -> x.fade(0, 0));
        acts("turn", PipPortrait::new, x -> x.turn(0));
        acts("swap of the same pips", () -> Looks.of(2, 2), x -> x.swap(0, 6));
        acts("flip", PipPortrait::new, x -> x.flip(0, 0));
        acts("hold of a held one", ActionsTest::allHeld, x -> x.hold(0, true));
        acts("hold, let go what is not held", PipPortrait::new, x -> x.hold(0, false));
        acts("lay where all are held", ActionsTest::allHeld, x -> x.lay());
        acts("improve where all are held", ActionsTest::allHeld, x -> x.improve(20));
        acts("improve where nothing gains", PipPortrait::new, x -> x.improve(1));
        CHECK.sentence("Before each action, the state is remembered");
        Looks.Making other = () -> {
            PipPortrait x = Looks.of(4, 2);
            x.fade(3, 97);
            x.turn(5);
            x.hold(7, true);
            return x;
        };
        acts("begin", other, x -> x.begin(2, 1));
        acts("grey", other, x -> x.grey(5, 9, 99));
        acts("fade", other, x -> x.fade(97, 3));
        acts("turn", other, x -> x.turn(29));
        acts("swap", other, x -> x.swap(29, 0));
        acts("flip", other, x -> x.flip(4, 8));
        acts("hold", other, x -> x.hold(29, true));
        acts("let go", other, x -> x.hold(7, false));
        acts("lay", other, x -> x.lay());
        acts("improve", other, x -> x.improve(20));
    }

    // The grey of the first square tells how many actions have been done.
    private static PipPortrait after(int actions) {
        PipPortrait x = new PipPortrait();
        for (int i = 1; i <= actions; i++) x.grey(0, 0, i);
        return x;
    }

    private static void fourteenAreRemembered() {
        CHECK.sentence("At most 14 states are remembered");
        for (int actions = 0; actions <= 45; actions++) {
            PipPortrait x = after(actions);
            int many = Math.min(14, actions);
            for (int left = many - 1; left >= 0; left--) {
                int states = left;
                CHECK.due("undo() behind " + actions, states, () -> x.undo());
                CHECK.due("the grey then", actions - many + states, () -> x.square(0, 0, 0));
            }
            cannotUndo("once more behind " + actions, x);
            CHECK.due("the grey stays", actions - many, () -> x.square(0, 0, 0));
        }
    }

    private static void aRingOfStates() {
        CHECK.sentence("when one more is remembered, the oldest one is forgotten");
        for (int first = 0; first <= 30; first++)
            for (int back = 0; back <= Math.min(14, first); back += 3)
                for (int more = 0; more <= 16; more += 4) {
                    PipPortrait x = after(first);
                    for (int i = 0; i < back; i++) x.undo();
                    for (int i = 1; i <= more; i++) x.grey(1, 0, i);
                    int many = Math.min(14, Math.min(14, first) - back + more);
                    String what = "behind " + first + " actions, " + back + " undone, " + more + " more";
                    CHECK.due(what, many, () -> remembered(x));
                    int grey = many <= more ? more - many : 0;
                    CHECK.due(what, grey, () -> x.square(1, 0, 0));
                    CHECK.due(what, first - back - Math.max(0, many - more), () -> x.square(0, 0, 0));
                }
    }

    private static void theOldestIsForgotten() {
        CHECK.sentence("Takes back the last action that is remembered");
        PipPortrait x = Looks.of(2, 1);
        for (int i = 1; i <= 14; i++) x.grey(0, 0, i);
        for (int i = 13; i >= 0; i--) {
            int left = i;
            CHECK.due("undo()", left, () -> x.undo());
        }
        cannotUndo("of begin(), which is the oldest", x);
        CHECK.due("n", 2, () -> x.about(0));
        PipPortrait y = Looks.of(2, 1);
        for (int i = 1; i <= 13; i++) y.grey(0, 0, i);
        for (int i = 0; i < 14; i++) y.undo();
        CHECK.due("begin() is taken back", 3, () -> y.about(0));
    }

    private static void undoIsNoAction() {
        CHECK.sentence("undo is none");
        PipPortrait x = after(5);
        CHECK.due("undo()", 4, () -> x.undo());
        CHECK.due("undo()", 3, () -> x.undo());
        CHECK.due("it goes on backwards", 3, () -> x.square(0, 0, 0));
        x.grey(0, 0, 77);
        CHECK.due("undo() of the new one", 3, () -> x.undo());
        CHECK.due("grey", 3, () -> x.square(0, 0, 0));
    }

    private static void undoBringsBackAll() {
        CHECK.sentence("the state, which consists of everything but the text and the save slots");
        PipPortrait x = Looks.of(5, 1);
        x.fade(99, 0);
        x.hold(20, true);
        x.turn(19);
        x.flip(0, 0);
        x.improve(3);
        String before = Looks.state(x);
        x.begin(2, 1);
        x.grey(3, 2, 99);
        CHECK.due("undo()", 7, () -> x.undo());
        CHECK.due("undo()", 6, () -> x.undo());
        CHECK.same("the larger one is back", before, Looks.state(x));
        PipPortrait y = new PipPortrait();
        y.grey(0, 0, 5);
        Looks.write(y, "D21");
        y.save(0);
        y.undo();
        CHECK.due("the text is not undone", 3, () -> y.clearText());
        CHECK.due("the slot is not undone", 76230 + 25, () -> y.restore(0));
        PipPortrait z = new PipPortrait();
        z.turn(0);
        z.swap(0, 1);
        z.flip(0, 0);
        z.fade(0, 99);
        int done = z.improve(2) > 0 ? z.about(10) : -1;
        CHECK.due("turn(), swap(), flip() and improve() of two", 5, () -> done);
        CHECK.sentence("those taken back by undo() aside");
        int[] counts = {3, 3, 2, 1, 0};
        for (int count : counts) {
            z.undo();
            CHECK.due("about(10)", count, () -> z.about(10));
        }
        z.turn(0);
        z.begin(3, 1);
        CHECK.due("since begin()", 0, () -> z.about(10));
        z.undo();
        CHECK.due("begin() is taken back", 1, () -> z.about(10));
    }

    private static void noActions() {
        CHECK.sentence("load and restore are not actions");
        PipPortrait x = Looks.with("D21");
        x.load();
        cannotUndo("behind load()", x);
        x.save(0);
        x.restore(0);
        cannotUndo("behind restore()", x);
        CHECK.sentence("save, append, clearText and looks are not actions either");
        PipPortrait y = after(3);
        y.save(0);
        y.save(1);
        y.append(65);
        y.errorPosition();
        y.clearText();
        y.gain(0);
        y.best(0);
        y.ifImproved(20, 0);
        y.least();
        y.worst(0);
        y.fits(0);
        y.runScript(1, 200000);
        y.simulate(1, 30);
        CHECK.due("undo()", 2, () -> y.undo());
        CHECK.due("grey", 2, () -> y.square(0, 0, 0));
    }

    private static void aNewObjectHasNoSlots() {
        CHECK.sentence("IllegalStateException if nothing has been saved in it since the last load");
        for (int slot = 0; slot < 2; slot++) {
            int one = slot;
            PipPortrait x = new PipPortrait();
            CHECK.thrown("restore(" + one + ") in a new object", Check.STATE, () -> x.restore(one));
            x.save(1 - one);
            CHECK.thrown("restore(" + one + ") behind save(" + (1 - one) + ")", Check.STATE, () -> x.restore(one));
            CHECK.due("save(" + one + ")", 76230, () -> x.save(one));
            CHECK.due("restore(" + one + ")", 76230, () -> x.restore(one));
            CHECK.due("the other one", 76230, () -> x.restore(1 - one));
        }
    }

    private static void slotsKeepTheirState() {
        CHECK.sentence("Stores the present state in a save slot");
        PipPortrait x = Looks.of(5, 1);
        x.fade(99, 0);
        x.hold(20, true);
        x.turn(19);
        String first = Looks.state(x);
        int error = x.about(5);
        CHECK.due("save(0)", error, () -> x.save(0));
        x.begin(2, 1);
        x.fade(0, 99);
        String second = Looks.state(x);
        CHECK.due("save(1)", 9043, () -> x.save(1));
        x.begin(6, 2);
        CHECK.sentence("Replaces the state by the one in a save slot");
        CHECK.due("restore(0)", error, () -> x.restore(0));
        CHECK.same("the state", first, Looks.state(x));
        CHECK.sentence("The save slot keeps it");
        x.turn(0);
        x.grey(6, 5, 50);
        CHECK.due("restore(0) again", error, () -> x.restore(0));
        CHECK.due("restore(1)", 9043, () -> x.restore(1));
        CHECK.same("the state", second, Looks.state(x));
        x.turn(1);
        CHECK.due("save over it", 9043 + 1960, () -> x.save(1));
        x.turn(1);
        CHECK.due("the newer one", 9043 + 1960, () -> x.restore(1));
        CHECK.due("the changes that were saved", 1, () -> x.about(10));
    }

    private static void restoreForgets() {
        CHECK.sentence("and forgets all remembered states");
        for (int actions = 0; actions <= 16; actions += 8) {
            PipPortrait x = after(actions);
            x.save(1);
            x.turn(0);
            x.restore(1);
            cannotUndo("behind restore()", x);
            x.turn(0);
            CHECK.due("only the new one", 0, () -> x.undo());
            cannotUndo("once more", x);
        }
    }

    private static void loadEmptiesSlots() {
        CHECK.sentence("both save slots are empty");
        PipPortrait x = Looks.with("D31");
        x.turn(0);
        x.save(0);
        x.save(1);
        x.load();
        for (int slot = 0; slot < 2; slot++) {
            int one = slot;
            CHECK.thrown("restore(" + slot + ")", Check.STATE, () -> x.restore(one));
        }
        x.save(1);
        CHECK.thrown("restore(0)", Check.STATE, () -> x.restore(0));
        CHECK.due("restore(1)", 76230, () -> x.restore(1));
        CHECK.sentence("begin leaves the slots");
        x.begin(2, 1);
        CHECK.due("restore(1)", 76230, () -> x.restore(1));
    }

    private static void manyCalls() {
        CHECK.sentence("An object is used for at most 512 calls after it has been made");
        PipPortrait x = new PipPortrait();
        for (int i = 1; i <= 497; i++) {
            int grey = i % 100, before = (i - 1) % 100;
            CHECK.due("grey", before, () -> x.grey(4, 3, grey));
        }
        for (int i = 13; i >= 0; i--) {
            int left = i;
            CHECK.due("undo()", left, () -> x.undo());
        }
        CHECK.due("the 512th call", 83, () -> x.square(4, 3, 0));
        PipPortrait y = Looks.of(6, 2);
        for (int i = 2; i < 512; i++) y.turn(55);
        CHECK.due("turned 510 times", 510, () -> y.about(10));
    }

    private static void objectsAreTheirOwn() {
        CHECK.sentence("Creates a portrait of one set up to 3, and a picture of greys 0");
        PipPortrait x = Looks.busy();
        PipPortrait y = new PipPortrait();
        String fresh = Looks.state(y);
        x.grey(0, 0, 1);
        x.simulate(1, 30);
        CHECK.same("another object changes nothing in it", fresh, Looks.state(y));
        CHECK.same("a new one", fresh, Looks.state(new PipPortrait()));
        CHECK.due("its text", 0, () -> y.clearText());
        CHECK.thrown("its slots", Check.STATE, () -> y.restore(0));
        cannotUndo("in it", y);
    }
}
