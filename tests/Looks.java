/** Portraits to look at, and looks at all of one: its state, what it remembers, its slots and its text. */
final class Looks {
    /** 120 characters that are a portrait. */
    static final String FULL = "D22p00107f1090t03s0507b000h02li01" + "p31299".repeat(14) + "t04";

    interface Making {
        PipPortrait make();
    }

    interface Doing {
        int on(PipPortrait x);
    }

    static PipPortrait of(int n, int sets) {
        PipPortrait x = new PipPortrait();
        x.begin(n, sets);
        return x;
    }

    static int tiles(int n, int sets) {
        return (n + 1) * (n + 2) / 2 * sets;
    }

    static PipPortrait with(String text) {
        PipPortrait x = new PipPortrait();
        write(x, text);
        return x;
    }

    static void write(PipPortrait x, String text) {
        for (int i = 0; i < text.length(); i++) x.append(text.charAt(i));
    }

    /**
     * n 2, one set; a full text, two slots that are filled, 14 states that are remembered. The block
     * at 2 0 lies upright: the places begin on the squares 0, 2, 3, 4, 8, 10. 0 and 4 are held.
     */
    static PipPortrait busy() {
        return busyWith(FULL);
    }

    static PipPortrait busyWith(String text) {
        PipPortrait x = with(text);
        x.begin(2, 1);
        x.fade(90, 5);
        x.save(0);
        x.swap(0, 5);
        x.flip(2, 0);
        x.save(1);
        for (int i = 0; i < 12; i++) x.grey(i % 4, i % 3, 7 * i + 1);
        x.turn(1);
        x.turn(5);
        x.hold(0, true);
        x.hold(4, true);
        return x;
    }

    /** All that undo would bring back. */
    static String state(PipPortrait x) {
        StringBuilder told = new StringBuilder("state");
        for (int what = 0; what <= 10; what++) told.append(' ').append(x.about(what));
        int tiles = x.about(4);
        for (int k = 0; k < tiles; k++)
            for (int what = 0; what <= 5; what++) told.append(' ').append(x.place(k, what));
        return told.append(greys(x)).toString();
    }

    private static String greys(PipPortrait x) {
        StringBuilder told = new StringBuilder(" greys");
        int columns = x.about(2), rows = x.about(3);
        for (int column = 0; column < columns; column++)
            for (int row = 0; row < rows; row++) told.append(' ').append(x.square(column, row, 0));
        return told.toString();
    }

    /** What each undo brings back, up to the exception. Only for small portraits: it takes many calls. */
    private static String remembered(PipPortrait x) {
        StringBuilder told = new StringBuilder(" remembered");
        for (int i = 0; i < 20; i++) {
            String undone = Check.told(x::undo);
            told.append(' ').append(undone);
            if (undone.equals(Check.STATE)) break;
            told.append(' ').append(x.about(7)).append(' ').append(x.about(8)).append(' ').append(x.about(10)).append(greys(x));
        }
        return told.toString();
    }

    private static String slot(PipPortrait x, int slot) {
        return " slot " + Check.told(() -> x.restore(slot)) + " " + state(x);
    }

    private static String text(PipPortrait x) {
        return " text " + x.errorPosition() + " " + Check.told(x::load) + " " + state(x) + " " + x.clearText();
    }

    private static PipPortrait done(Making making, Doing doing) {
        PipPortrait x = making.make();
        Check.told(() -> doing.on(x));
        return x;
    }

    /** Everything, behind that what is done. Each look has an object of its own, since looks change it. */
    static String whole(Making making, Doing doing) {
        return state(done(making, doing)) + remembered(done(making, doing)) + slot(done(making, doing), 0)
                + slot(done(making, doing), 1) + text(done(making, doing));
    }
}
