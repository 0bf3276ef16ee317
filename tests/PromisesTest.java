/**
 * Each promise by itself. The numbers due were worked out by hand, mostly on the smallest portrait:
 * n 2, one set: 4 columns, 3 rows, the tiles 00 01 02 11 12 22 with the shades 0, 49 and 99.
 */
public final class PromisesTest {
    private static final Check CHECK = new Check();
    private static int promise;

    public static void main(String[] args) {
        promise = 1; aNewObject();
        promise = 2; append();
        promise = 3; clearText();
        promise = 4; errorPosition();
        promise = 5; load();
        promise = 6; about();
        promise = 7; square();
        promise = 8; place();
        promise = 9; tile();
        promise = 10; begin();
        promise = 11; grey();
        promise = 12; fade();
        promise = 13; turn();
        promise = 14; swap();
        promise = 15; flip();
        promise = 16; hold();
        promise = 17; lay();
        promise = 18; improve();
        promise = 19; undo();
        promise = 20; gain();
        promise = 21; best();
        promise = 22; ifImproved();
        promise = 23; least();
        promise = 24; worst();
        promise = 25; fits();
        promise = 26; runScript();
        promise = 27; simulate();
        promise = 28; save();
        promise = 29; restore();
        CHECK.end("PromisesTest");
    }

    private static void due(String what, long want, Check.Call call) {
        CHECK.due("promise " + promise + ": " + what, want, call);
    }

    private static void thrown(String what, String exception, Check.Call call) {
        CHECK.thrown("promise " + promise + ": " + what, exception, call);
    }

    private static void throwsIndex(String what, Check.Call call) { thrown(what, Check.INDEX, call); }
    private static void throwsArgument(String what, Check.Call call) { thrown(what, Check.ARGUMENT, call); }
    private static void throwsState(String what, Check.Call call) { thrown(what, Check.STATE, call); }

    private static PipPortrait small() {
        PipPortrait x = new PipPortrait();
        x.begin(2, 1);
        return x;
    }

    // All greys 0 but for a 99 in the upper left corner.
    private static PipPortrait corner() {
        PipPortrait x = small();
        x.grey(0, 0, 99);
        return x;
    }

    // The tiles 22 and 00 each lie on a 99 and a 0: flipped, they fit. All other places are held.
    private static PipPortrait block() {
        PipPortrait x = small();
        x.grey(0, 0, 99);
        x.grey(0, 1, 99);
        x.swap(0, 5);
        x.swap(2, 5);
        for (int k = 0; k < 6; k++) if (k != 0 && k != 2) x.hold(k, true);
        return x;
    }

    // All places but two of the last ones are held; their tiles, 44 and 45, would fit if they changed.
    private static PipPortrait far() {
        PipPortrait x = largest();
        x.grey(4, 12, 66);
        x.grey(5, 12, 82);
        x.grey(6, 12, 66);
        x.grey(7, 12, 66);
        for (int k = 0; k < 56; k++) if (k != 50 && k != 51) x.hold(k, true);
        return x;
    }

    private static PipPortrait faded() {
        PipPortrait x = small();
        x.fade(0, 99);
        return x;
    }

    private static PipPortrait largest() {
        PipPortrait x = new PipPortrait();
        x.begin(6, 2);
        return x;
    }

    private static void write(PipPortrait x, String text) {
        x.clearText();
        for (int i = 0; i < text.length(); i++) x.append(text.charAt(i));
    }

    private static void rows(String what, PipPortrait x, int kind, int... want) {
        for (int k = 0; k < want.length; k++) {
            int place = k;
            due(what + ": place(" + k + ", " + kind + ")", want[k], () -> x.place(place, kind));
        }
    }

    private static String all(PipPortrait x) {
        StringBuilder told = new StringBuilder();
        for (int i = 0; i <= 10; i++) told.append(x.about(i)).append(' ');
        for (int k = 0; k < x.about(4); k++)
            for (int i = 0; i <= 6; i++) told.append(x.place(k, i)).append(' ');
        for (int sx = 0; sx < x.about(2); sx++)
            for (int sy = 0; sy < x.about(3); sy++) told.append(x.square(sx, sy, 0)).append(' ');
        return told.toString();
    }

    private static void same(String what, String want, String got) {
        CHECK.same("promise " + promise + ": " + what, want, got);
    }

    private static void aNewObject() {
        PipPortrait x = new PipPortrait();
        int[] want = {3, 1, 5, 4, 10, 76230, 0, 0, 0, 8, 0};
        for (int i = 0; i < want.length; i++) {
            int what = i;
            due("about(" + i + ")", want[i], () -> x.about(what));
        }
        for (int k = 0; k < 10; k++) {
            int place = k;
            due("first of " + k, k < 5 ? k : k + 5, () -> x.place(place, 0));
            due("other of " + k, k < 5 ? k + 5 : k + 10, () -> x.place(place, 1));
            due("tile of " + k, k, () -> x.place(place, 2));
        }
        for (int sx = 0; sx < 5; sx++)
            for (int sy = 0; sy < 4; sy++) {
                int a = sx, b = sy;
                due("grey", 0, () -> x.square(a, b, 0));
            }
        due("text", 0, () -> x.clearText());
        throwsState("undo", () -> x.undo());
        throwsState("restore(0)", () -> x.restore(0));
        throwsState("restore(1)", () -> x.restore(1));
        due("NONE", -1, () -> PipPortrait.NONE);
    }

    private static void append() {
        PipPortrait x = new PipPortrait();
        throwsArgument("append(-1)", () -> x.append(-1));
        throwsArgument("append(256)", () -> x.append(256));
        throwsArgument("append(least int)", () -> x.append(Integer.MIN_VALUE));
        throwsArgument("append(65536 + 65)", () -> x.append(65536 + 65));
        for (int i = 1; i <= 120; i++) {
            int c = i == 1 ? 0 : i == 2 ? 255 : i;
            due("append", i, () -> x.append(c));
        }
        throwsState("append to a full text", () -> x.append(65));
        throwsArgument("append(256) to a full text", () -> x.append(256));
        throwsArgument("append(-1) to a full text", () -> x.append(-1));
        due("length", 120, () -> x.clearText());
    }

    private static void clearText() {
        PipPortrait x = new PipPortrait();
        due("of an empty text", 0, () -> x.clearText());
        write(x, "D21");
        due("errorPosition", -1, () -> x.errorPosition());
        due("of three", 3, () -> x.clearText());
        due("again", 0, () -> x.clearText());
        due("errorPosition", 0, () -> x.errorPosition());
        due("append", 1, () -> x.append('D'));
        due("errorPosition", 1, () -> x.errorPosition());
    }

    private static void error(String text, int position) {
        PipPortrait x = new PipPortrait();
        write(x, text);
        due("errorPosition of " + text, position, () -> x.errorPosition());
        due("it keeps the text " + text, text.length(), () -> x.clearText());
    }

    private static void errorPosition() {
        error("", 0);
        error("d21", 0);
        error("D", 1);
        error("D1", 1);
        error("D7", 1);
        error("DD", 1);
        error("D2", 2);
        error("D20", 2);
        error("D23", 2);
        error("D2D", 2);
        for (int n = 2; n <= 6; n++) {
            error("D" + n + "1", -1);
            error("D" + n + "2", -1);
        }
        for (int c = 0; c <= 255; c++) {
            boolean letter = "pftsbhi".indexOf(c) >= 0;
            error("D21" + (char) c, c == 'l' ? -1 : letter ? 4 : 3);
        }
        digits("p", "00000", 0, "01234567");
        digits("p", "00000", 1, "01");
        digits("p", "00000", 2, "0123456789");
        digits("p", "01000", 2, "0123");
        digits("p", "00000", 3, "0123456789");
        digits("p", "00000", 4, "0123456789");
        digits("p", "00090", 4, "0123456789");
        for (int i = 0; i < 4; i++) digits("f", "0909", i, "0123456789");
        for (String letter : new String[] {"t", "h"}) numbers(letter, "", "", 55, 0);
        numbers("s", "", "00", 55, 0);
        numbers("s", "55", "", 55, 0);
        digits("b", "000", 0, "01234567");
        numbers("b", "7", "", 13, 0);
        numbers("i", "", "", 20, 1);
        error("D21l1", 4);
        error("D21ll", -1);
        error("D21p7139f", 8);
        error("D21p71399f0001t55s5554b713h00li20i01", -1);
        error("D21 l", 3);
        error("D21l D21", 4);
        error("D21lD21", 4);
        error("D21t0", 5);
        error("D21l".concat("l".repeat(116)), -1);
        error("D21".concat("t00".repeat(39)), -1);
        error("D21".concat("l".repeat(116)).concat("i"), 120);
        error("D21".concat("l".repeat(116)).concat("x"), 119);
    }

    // The sign at this place of a command, for each sign: allowed or not.
    private static void digits(String letter, String rest, int place, String allowed) {
        for (int c = 0; c <= 255; c++) {
            String text = "D21" + letter + rest.substring(0, place) + (char) c + rest.substring(place + 1);
            PipPortrait x = new PipPortrait();
            write(x, text);
            int position = 4 + place;
            if (allowed.indexOf(c) < 0) due("errorPosition of " + text, position, () -> x.errorPosition());
            else due("allowed " + text, 1, () -> x.errorPosition() == position ? 0 : 1);
        }
    }

    // All numbers of two digits between what comes before and behind.
    private static void numbers(String letter, String before, String behind, int most, int least) {
        for (int number = 0; number <= 99; number++) {
            String two = (number < 10 ? "0" : "") + number;
            int start = 4 + before.length();
            boolean firstBad = number / 10 > most / 10;
            error("D21" + letter + before + two + behind, number >= least && number <= most ? -1 : firstBad ? start : start + 1);
        }
    }

    private static void load() {
        PipPortrait x = new PipPortrait();
        x.turn(1);
        x.save(0);
        String before = all(x);
        throwsState("of an empty text", () -> x.load());
        write(x, "D21t5");
        throwsState("of a text that ends too soon", () -> x.load());
        due("the text is kept", 5, () -> x.append('5') - 1);
        write(x, "D21x");
        throwsState("of a wrong text", () -> x.load());
        same("nothing changed", before, all(x));
        due("undo", 0, () -> x.undo());
        due("restore(0)", 76230, () -> x.restore(0));
        x.turn(1);
        x.save(1);

        write(x, "D21");
        due("a bare portrait", 0, () -> x.load());
        same("as begun", all(small()), all(x));
        throwsState("nothing is remembered", () -> x.undo());
        throwsState("slot 0 is empty", () -> x.restore(0));
        throwsState("slot 1 is empty", () -> x.restore(1));
        due("the text is kept", 4, () -> x.append('l'));
        due("load again", 0, () -> x.load());
        for (int n = 2; n <= 6; n++)
            for (int sets = 1; sets <= 2; sets++) {
                write(x, "D" + n + sets);
                x.load();
                PipPortrait y = new PipPortrait();
                y.begin(n, sets);
                same("n " + n + " sets " + sets, all(y), all(x));
            }

        PipPortrait y = small();
        y.grey(0, 0, 99); y.fade(10, 90); y.grey(3, 2, 5); y.turn(1); y.swap(5, 3); y.flip(0, 0); y.hold(1, true); y.lay(); y.improve(3);
        write(x, "D21p00099f1090p30205t01s0503b000h01li03");
        due("all commands", 0, () -> x.load());
        same("all commands", all(y), all(x));
        throwsState("nothing is remembered", () -> x.undo());

        due("p, a column that is none", 1, () -> leftOut("D21p40000"));
        due("p, a row that is none", 2, () -> leftOut("D21p00300p31205"));
        due("t, a place that is none", 1, () -> leftOut("D21t06"));
        due("t, the last place", 0, () -> leftOut("D21t05"));
        due("t, held", 1, () -> leftOut("D21h00t00"));
        due("h twice", 0, () -> leftOut("D21h00h00"));
        due("h, a place that is none", 1, () -> leftOut("D21h06"));
        due("s, the same", 1, () -> leftOut("D21s0101"));
        due("s, a place that is none", 2, () -> leftOut("D21s0006s0600"));
        due("s, held", 2, () -> leftOut("D21h01s0001s0100"));
        due("b, a column that is none", 1, () -> leftOut("D21b400"));
        due("b, a row that is none", 1, () -> leftOut("D21b003"));
        due("b, no block", 3, () -> leftOut("D21b100b300b002"));
        due("b, held", 1, () -> leftOut("D21h00b000"));
        due("l and i and f are never left out", 0, () -> leftOut("D21h00h01h02h03h04h05li20f9900"));
        due("many", 9, () -> leftOut("D21t06t07t08t09t10t11t12t13t14t00"));

        write(x, "D21t01");
        x.load();
        due("the turn of a text counts", 1, () -> x.about(10));
        write(x, "D21");
        x.load();
        due("counted anew", 0, () -> x.about(10));
    }

    private static int leftOut(String text) {
        PipPortrait x = new PipPortrait();
        write(x, text);
        return x.load();
    }

    private static void about() {
        PipPortrait x = small();
        int[] want = {2, 1, 4, 3, 6, 48808, 6, 0, 0, 4, 0};
        for (int i = 0; i < want.length; i++) {
            int what = i;
            due("about(" + i + ")", want[i], () -> x.about(what));
        }
        throwsArgument("about(-1)", () -> x.about(-1));
        throwsArgument("about(11)", () -> x.about(11));
        x.fade(0, 99);
        due("error", 9043, () -> x.about(5));
        x.hold(0, true);
        x.hold(2, true);
        due("held", 2, () -> x.about(8));
        due("blocks, free or not", 4, () -> x.about(9));
        x.hold(0, false);
        x.hold(2, false);
        x.turn(1);
        x.turn(4);
        due("turned", 2, () -> x.about(7));
        due("changes", 2, () -> x.about(10));
        x.turn(1);
        due("turned", 1, () -> x.about(7));
        due("changes", 3, () -> x.about(10));
        x.undo();
        due("changes without what is taken back", 2, () -> x.about(10));
        x.swap(0, 5);
        due("changes", 3, () -> x.about(10));
        x.flip(0, 0);
        due("changes", 4, () -> x.about(10));
        due("along rows", 4, () -> x.about(6));
        due("blocks", 3, () -> x.about(9));
        x.flip(2, 0);
        due("along rows", 2, () -> x.about(6));
        due("blocks", 3, () -> x.about(9));
        int changes = x.about(10);
        int more = x.ifImproved(20, 1);
        x.improve(20);
        due("changes of improve", changes + more, () -> x.about(10));
        x.lay();
        x.grey(0, 0, 1);
        x.fade(1, 2);
        x.hold(0, true);
        due("others do not count", changes + more, () -> x.about(10));
        x.begin(2, 2);
        due("begun anew", 0, () -> x.about(10));
        due("rows", 6, () -> x.about(3));
        due("tiles", 12, () -> x.about(4));
        due("sets", 2, () -> x.about(1));
        due("error", 2 * 48808, () -> x.about(5));
        x.undo();
        due("back", changes + more, () -> x.about(10));
        PipPortrait wrapped = small();
        wrapped.flip(2, 0);
        wrapped.flip(0, 1);
        due("no block goes round the edge", 2, () -> wrapped.about(9));
        PipPortrait big = largest();
        due("columns", 8, () -> big.about(2));
        due("rows", 14, () -> big.about(3));
        due("tiles", 56, () -> big.about(4));
        due("blocks", 52, () -> big.about(9));
    }

    private static void square() {
        PipPortrait x = faded();
        int[][] greys = {{0, 19, 39, 59}, {19, 39, 59, 79}, {39, 59, 79, 99}};
        int[][] pips = {{0, 0, 0, 1}, {0, 2, 1, 1}, {1, 2, 2, 2}};
        int[] shades = {0, 49, 99};
        for (int row = 0; row < 3; row++)
            for (int column = 0; column < 4; column++) {
                int a = column, b = row, grey = greys[row][column], shade = shades[pips[row][column]];
                due("grey", grey, () -> x.square(a, b, 0));
                due("shade", shade, () -> x.square(a, b, 1));
                due("error", (grey - shade) * (grey - shade), () -> x.square(a, b, 2));
                due("place", 2 * b + a / 2, () -> x.square(a, b, 3));
                due("pips", pips[b][a], () -> x.square(a, b, 4));
            }
        x.turn(1);
        due("turned", 1, () -> x.square(2, 0, 4));
        due("turned", 0, () -> x.square(3, 0, 4));
        due("turned", 49, () -> x.square(2, 0, 1));
        due("turned", 100, () -> x.square(2, 0, 2));
        throwsIndex("x -1", () -> x.square(-1, 0, 0));
        throwsIndex("x 4", () -> x.square(4, 0, 0));
        throwsIndex("y -1", () -> x.square(0, -1, 0));
        throwsIndex("y 3", () -> x.square(0, 3, 0));
        throwsArgument("what -1", () -> x.square(0, 0, -1));
        throwsArgument("what 5", () -> x.square(0, 0, 5));
        throwsIndex("the square first", () -> x.square(4, 0, 5));
        PipPortrait six = new PipPortrait();
        six.begin(6, 1);
        int[] sixth = {0, 16, 33, 49, 66, 82, 99};
        for (int p = 0; p <= 6; p++) {
            int column = 2 * p % 8 + 1, row = p / 4, want = sixth[p];
            due("shade of six", want, () -> six.square(column, row, 1));
        }
    }

    private static void place() {
        PipPortrait x = faded();
        rows("first", x, 0, 0, 2, 4, 6, 8, 10);
        rows("other", x, 1, 1, 3, 5, 7, 9, 11);
        rows("tile", x, 2, 0, 1, 2, 3, 4, 5);
        rows("turned", x, 3, 0, 0, 0, 0, 0, 0);
        rows("error", x, 4, 361, 1621, 3961, 1000, 1700, 400);
        rows("held", x, 5, 0, 0, 0, 0, 0, 0);
        rows("along", x, 6, 1, 1, 1, 1, 1, 1);
        x.turn(1);
        x.hold(5, true);
        x.flip(0, 1);
        rows("first", x, 0, 0, 2, 4, 5, 6, 10);
        rows("other", x, 1, 1, 3, 8, 9, 7, 11);
        rows("tile", x, 2, 0, 1, 2, 4, 3, 5);
        rows("turned", x, 3, 0, 1, 0, 0, 0, 0);
        rows("error", x, 4, 361, 3581, 3961, 1700, 1000, 400);
        rows("held", x, 5, 0, 0, 0, 0, 0, 1);
        rows("along", x, 6, 1, 1, 0, 0, 1, 1);
        throwsIndex("place(-1, 0)", () -> x.place(-1, 0));
        throwsIndex("place(6, 0)", () -> x.place(6, 0));
        throwsArgument("place(0, -1)", () -> x.place(0, -1));
        throwsArgument("place(0, 7)", () -> x.place(0, 7));
        throwsIndex("the place first", () -> x.place(6, 7));
        PipPortrait five = new PipPortrait();
        five.begin(5, 1);
        due("first", 6, () -> five.place(6, 0));
        due("other", 13, () -> five.place(6, 1));
        due("first", 14, () -> five.place(7, 0));
        due("other", 21, () -> five.place(7, 1));
        due("first", 34, () -> five.place(20, 0));
        due("other", 41, () -> five.place(20, 1));
    }

    private static void tile() {
        PipPortrait x = new PipPortrait();
        for (int n = 2; n <= 6; n++) {
            x.begin(n, 2);
            int t = 0;
            for (int set = 0; set < 2; set++)
                for (int a = 0; a <= n; a++)
                    for (int b = a; b <= n; b++) {
                        int number = t++, low = a, high = b;
                        due("a", low, () -> x.tile(number, 0));
                        due("b", high, () -> x.tile(number, 1));
                        due("where", number, () -> x.tile(number, 2));
                    }
            int count = t;
            throwsIndex("a tile behind the last one", () -> x.tile(count, 0));
        }
        x.begin(2, 1);
        x.swap(1, 4);
        due("where", 4, () -> x.tile(1, 2));
        due("where", 1, () -> x.tile(4, 2));
        due("pips stay", 2, () -> x.tile(4, 1));
        throwsIndex("tile(-1, 0)", () -> x.tile(-1, 0));
        throwsIndex("tile(6, 0)", () -> x.tile(6, 0));
        throwsArgument("tile(0, -1)", () -> x.tile(0, -1));
        throwsArgument("tile(0, 3)", () -> x.tile(0, 3));
        throwsIndex("the tile first", () -> x.tile(6, 3));
    }

    private static void begin() {
        PipPortrait x = new PipPortrait();
        int[] tiles = {6, 10, 15, 21, 28};
        for (int n = 2; n <= 6; n++) {
            int a = n, many = tiles[n - 2];
            due("begin(" + n + ", 1)", many, () -> x.begin(a, 1));
            due("columns", a + 2, () -> x.about(2));
            due("rows", a + 1, () -> x.about(3));
            due("along rows", a % 2 == 0 ? many : 0, () -> x.about(6));
            due("begin(" + n + ", 2)", 2 * many, () -> x.begin(a, 2));
            due("rows", 2 * (a + 1), () -> x.about(3));
            due("along rows", a % 2 == 0 ? 2 * many : 0, () -> x.about(6));
        }
        x.begin(3, 1);
        x.fade(10, 90);
        x.swap(0, 7); x.flip(1, 0); x.turn(2); x.turn(9); x.hold(3, true); x.hold(9, true);
        String before = all(x);
        due("begin(3, 1)", 10, () -> x.begin(3, 1));
        same("all as at first", all(new PipPortrait()), all(x));
        x.undo();
        same("it is an action", before, all(x));
        throwsArgument("begin(1, 1)", () -> x.begin(1, 1));
        throwsArgument("begin(7, 1)", () -> x.begin(7, 1));
        throwsArgument("begin(2, 0)", () -> x.begin(2, 0));
        throwsArgument("begin(2, 3)", () -> x.begin(2, 3));
        throwsArgument("begin(-2, -1)", () -> x.begin(-2, -1));
        same("nothing changed", before, all(x));
        x.save(0);
        x.begin(2, 1);
        due("a save slot is kept", 3, () -> { x.restore(0); return x.about(0); });
        same("a save slot is kept", before, all(x));
    }

    private static void grey() {
        PipPortrait x = small();
        due("grey(0, 0, 99)", 0, () -> x.grey(0, 0, 99));
        due("grey(0, 0, 98)", 99, () -> x.grey(0, 0, 98));
        due("grey(3, 2, 7)", 0, () -> x.grey(3, 2, 7));
        due("grey(3, 2, 0)", 7, () -> x.grey(3, 2, 0));
        due("it is there", 98, () -> x.square(0, 0, 0));
        due("its neighbour is as it was", 0, () -> x.square(1, 0, 0));
        due("its neighbour is as it was", 0, () -> x.square(0, 1, 0));
        throwsIndex("x -1", () -> x.grey(-1, 0, 5));
        throwsIndex("x 4", () -> x.grey(4, 0, 5));
        throwsIndex("y -1", () -> x.grey(0, -1, 5));
        throwsIndex("y 3", () -> x.grey(0, 3, 5));
        throwsArgument("grey -1", () -> x.grey(0, 0, -1));
        throwsArgument("grey 100", () -> x.grey(0, 0, 100));
        throwsIndex("the square first", () -> x.grey(4, 0, 100));
        due("only actions are remembered", 4, () -> x.undo());
        due("undo", 7, () -> x.square(3, 2, 0));
    }

    private static void fade() {
        PipPortrait x = small();
        due("fade(0, 99)", 9043, () -> x.fade(0, 99));
        int[] greys = {0, 19, 39, 59, 79, 99};
        for (int sx = 0; sx < 4; sx++)
            for (int sy = 0; sy < 3; sy++) {
                int a = sx, b = sy;
                due("square " + sx + " " + sy, greys[sx + sy], () -> x.square(a, b, 0));
            }
        due("fade(0, 0)", 48808, () -> x.fade(0, 0));
        x.fade(99, 0);
        int[] falling = {99, 79, 59, 39, 19, 0};
        for (int sx = 0; sx < 4; sx++) {
            int a = sx;
            due("falling", falling[a + 2], () -> x.square(a, 2, 0));
        }
        due("undo", 3, () -> x.undo());
        throwsArgument("fade(-1, 0)", () -> x.fade(-1, 0));
        throwsArgument("fade(100, 0)", () -> x.fade(100, 0));
        throwsArgument("fade(0, -1)", () -> x.fade(0, -1));
        throwsArgument("fade(0, 100)", () -> x.fade(0, 100));
        PipPortrait y = new PipPortrait();
        due("fade(99, 0) of n 3", 69735, () -> y.fade(99, 0));
        PipPortrait z = largest();
        z.fade(1, 98);
        due("last", 98, () -> z.square(7, 13, 0));
        due("first", 1, () -> z.square(0, 0, 0));
        due("between", (1 * 12 + 98 * 8) / 20, () -> z.square(5, 3, 0));
    }

    private static void turn() {
        PipPortrait x = faded();
        due("turn(1)", -1960, () -> x.turn(1));
        due("turned", 1, () -> x.place(1, 3));
        due("error", 9043 + 1960, () -> x.about(5));
        due("turn(1)", 1960, () -> x.turn(1));
        due("not turned", 0, () -> x.place(1, 3));
        due("turn(5), a double", 0, () -> x.turn(5));
        due("turned all the same", 1, () -> x.place(5, 3));
        throwsIndex("turn(-1)", () -> x.turn(-1));
        throwsIndex("turn(6)", () -> x.turn(6));
        x.hold(2, true);
        throwsState("turn(2), held", () -> x.turn(2));
        due("only actions are remembered", 5, () -> x.undo());
        due("turn(2), let go", 3961 - (80 * 80 + 39 * 39), () -> x.turn(2));
    }

    private static void swap() {
        PipPortrait x = faded();
        due("swap(1, 2)", 2000, () -> x.swap(1, 2));
        due("tile", 2, () -> x.place(1, 2));
        due("tile", 1, () -> x.place(2, 2));
        due("error", 7043, () -> x.about(5));
        due("swap(2, 1)", -2000, () -> x.swap(2, 1));
        x.turn(1);
        due("laid the better way, which gains the turn as well", 2000 + 1960, () -> x.swap(1, 2));
        due("turned", 0, () -> x.about(7));
        PipPortrait two = corner();
        two.grey(2, 2, 99);
        two.swap(2, 5);
        two.swap(0, 4);
        due("both turned", 2, () -> two.about(7));
        due("both turned", 2, () -> { two.swap(5, 0); return two.about(7); });
        rows("both turned", two, 3, 1, 0, 0, 0, 0, 1);
        PipPortrait z = corner();
        due("swap(0, 2)", 19602, () -> z.swap(0, 2));
        due("turned where that is better", 1, () -> z.place(0, 3));
        due("not turned if both are the same", 0, () -> z.place(2, 3));
        z.turn(4);
        z.swap(4, 1);
        due("not turned if both are the same", 1, () -> z.about(7));
        throwsIndex("swap(-1, 0)", () -> x.swap(-1, 0));
        throwsIndex("swap(0, 6)", () -> x.swap(0, 6));
        throwsIndex("swap(6, 6)", () -> x.swap(6, 6));
        throwsArgument("swap(3, 3)", () -> x.swap(3, 3));
        x.hold(3, true);
        throwsArgument("swap(3, 3), held", () -> x.swap(3, 3));
        throwsState("swap(3, 0)", () -> x.swap(3, 0));
        throwsState("swap(0, 3)", () -> x.swap(0, 3));
        throwsIndex("swap(3, 6)", () -> x.swap(3, 6));
        due("only actions are remembered", 6, () -> x.undo());
    }

    private static void flip() {
        PipPortrait x = small();
        x.grey(0, 1, 99);
        x.turn(1);
        x.hold(1, true);
        x.hold(4, true);
        due("flip(0, 0)", 9801 + 9801 - 9801 - 9801, () -> x.flip(0, 0));
        rows("first", x, 0, 0, 1, 2, 6, 8, 10);
        rows("other", x, 1, 4, 5, 3, 7, 9, 11);
        rows("tile", x, 2, 0, 2, 1, 3, 4, 5);
        rows("turned", x, 3, 0, 0, 1, 0, 0, 0);
        rows("held", x, 5, 0, 0, 1, 0, 1, 0);
        due("place of a square", 2, () -> x.square(3, 0, 3));
        due("place of a square", 1, () -> x.square(1, 1, 3));
        due("place of a square", 0, () -> x.square(0, 1, 3));
        due("flip(0, 0)", 9801 + 9801, () -> x.flip(0, 0));
        rows("first", x, 0, 0, 2, 4, 6, 8, 10);
        rows("other", x, 1, 1, 3, 5, 7, 9, 11);
        rows("tile", x, 2, 0, 1, 2, 3, 4, 5);
        rows("turned", x, 3, 0, 1, 1, 0, 0, 0);
        rows("held", x, 5, 0, 1, 0, 0, 1, 0);
        throwsState("a held place, above", () -> x.flip(2, 0));
        throwsState("a held place, below", () -> x.flip(0, 1));
        throwsState("not two whole places", () -> x.flip(1, 0));
        throwsState("the last column", () -> x.flip(3, 0));
        throwsState("the last row", () -> x.flip(0, 2));
        throwsState("the last corner", () -> x.flip(3, 2));
        throwsIndex("x -1", () -> x.flip(-1, 0));
        throwsIndex("x 4", () -> x.flip(4, 0));
        throwsIndex("y -1", () -> x.flip(0, -1));
        throwsIndex("y 3", () -> x.flip(0, 3));
        due("only actions are remembered", 6, () -> x.undo());
        PipPortrait y = small();
        y.flip(2, 0);
        y.flip(0, 1);
        throwsState("no block goes round the edge", () -> y.flip(3, 0));
        PipPortrait z = small();
        z.flip(0, 0);
        z.flip(2, 0);
        z.flip(1, 0);
        rows("first", z, 0, 0, 1, 3, 5, 8, 10);
        rows("other", z, 1, 4, 2, 7, 6, 9, 11);
        rows("tile", z, 2, 0, 2, 3, 1, 4, 5);
        PipPortrait far = new PipPortrait();
        far.turn(3);
        far.flip(0, 0);
        rows("first", far, 0, 0, 2, 3, 4, 5, 10, 11, 12, 13, 14);
        rows("tile", far, 2, 0, 2, 3, 4, 1, 5, 6, 7, 8, 9);
        rows("turned", far, 3, 0, 0, 1, 0, 0, 0);
        far.flip(0, 0);
        rows("first", far, 0, 0, 1, 2, 3, 4, 10, 11, 12, 13, 14);
        rows("other", far, 1, 5, 6, 7, 8, 9, 15, 16, 17, 18, 19);
        rows("tile", far, 2, 0, 1, 2, 3, 4, 5, 6, 7, 8, 9);
        rows("turned", far, 3, 0, 0, 0, 1, 0, 0);
        // 02 and 12 beside one another; upright, both have to be turned, and lie on 99 0 and 99 49.
        PipPortrait both = small();
        both.swap(0, 2);
        both.swap(2, 4);
        both.grey(0, 0, 99);
        both.grey(1, 0, 99);
        both.grey(1, 1, 49);
        due("both are laid the better way", 9801 + 2401 + 2500, () -> both.flip(0, 0));
        rows("turned", both, 3, 1, 1, 0, 0, 0, 0);
        rows("other", both, 1, 4, 5);
        PipPortrait odd = new PipPortrait();
        odd.flip(1, 2);
        rows("first", odd, 0, 0, 1, 2, 3, 4, 10, 11, 13, 14, 16);
        rows("tile", odd, 2, 0, 1, 2, 3, 4, 5, 6, 8, 9, 7);
    }

    private static void hold() {
        PipPortrait x = small();
        due("hold(0, true)", 1, () -> x.hold(0, true));
        due("hold(0, true) again", 1, () -> x.hold(0, true));
        due("hold(5, true)", 2, () -> x.hold(5, true));
        due("hold(3, false)", 2, () -> x.hold(3, false));
        due("hold(0, false)", 1, () -> x.hold(0, false));
        rows("held", x, 5, 0, 0, 0, 0, 0, 1);
        throwsIndex("hold(-1, true)", () -> x.hold(-1, true));
        throwsIndex("hold(6, false)", () -> x.hold(6, false));
        due("each is an action", 5, () -> x.undo());
        due("undo", 2, () -> x.about(8));
    }

    private static void lay() {
        PipPortrait x = small();
        x.turn(1);
        x.turn(5);
        due("lay of a black picture", 0, () -> x.lay());
        rows("tile", x, 2, 0, 1, 3, 2, 4, 5);
        rows("turned", x, 3, 0, 0, 0, 0, 0, 0);
        PipPortrait y = corner();
        due("lay", 19602, () -> y.lay());
        rows("tile", y, 2, 2, 0, 1, 3, 4, 5);
        rows("turned", y, 3, 1, 0, 0, 0, 0, 0);
        due("undo", 2, () -> y.undo());
        y.hold(2, true);
        y.hold(3, true);
        due("a held place keeps its tile", 9801 + 2401 + 12202 - 2401 - 2401, () -> y.lay());
        rows("tile", y, 2, 4, 0, 2, 3, 1, 5);
        PipPortrait two = new PipPortrait();
        two.begin(2, 2);
        two.lay();
        rows("the lowest tile of several", two, 2, 0, 6, 1, 7, 3, 9, 2, 8, 4, 10, 5, 11);
        PipPortrait worse = small();
        worse.fade(99, 0);
        int before = worse.about(5);
        int gained = worse.lay();
        due("the gain is that of the error", before - gained, () -> worse.about(5));
        for (int k = 0; k < 6; k++) worse.hold(k, true);
        due("all held", 0, () -> worse.lay());
        PipPortrait loses = small();
        // The first place takes the tile 02, which the second one would need as much.
        loses.grey(0, 0, 60);
        loses.grey(1, 0, 30);
        int e = loses.about(5);
        int g = loses.lay();
        due("a greedy step", e - g, () -> loses.about(5));
    }

    private static void improve() {
        PipPortrait x = corner();
        due("improve(5)", 19602, () -> x.improve(5));
        rows("tile", x, 2, 2, 1, 0, 3, 4, 5);
        due("one change", 1, () -> x.about(10));
        due("improve(1) where nothing is better", 0, () -> x.improve(1));
        due("it is an action all the same", 3, () -> x.undo());
        throwsArgument("improve(0)", () -> x.improve(0));
        throwsArgument("improve(21)", () -> x.improve(21));
        throwsArgument("improve(-1)", () -> x.improve(-1));
        PipPortrait y = corner();
        y.hold(2, true);
        due("held places are left out", 19602, () -> y.improve(20));
        rows("tile", y, 2, 4, 1, 2, 3, 0, 5);
        PipPortrait a = faded();
        PipPortrait b = faded();
        int sum = 0;
        for (int i = 0; i < 4; i++) sum += a.improve(1);
        int one = sum;
        due("improve(4) is four times improve(1)", one, () -> b.improve(4));
        same("the same", all(a), all(b));
        PipPortrait c = largest();
        c.fade(99, 0);
        int error = c.about(5);
        int gained = c.improve(20);
        due("the error", error - gained, () -> c.about(5));
        due("twenty", 20, () -> c.about(10));
        due("no more", 19, () -> { c.undo(); c.improve(19); return c.about(10); });
        PipPortrait turned = faded();
        turned.turn(1);
        for (int k = 0; k < 6; k++) if (k != 1) turned.hold(k, true);
        due("a turn", 1960, () -> turned.improve(20));
        PipPortrait last = far();
        due("places of two digits", 512, () -> last.improve(1));
        due("places of two digits", 51, () -> last.place(50, 2));
        PipPortrait block = block();
        due("a flip", 19602, () -> block.improve(20));
        due("it is done", 0, () -> block.place(0, 6));
    }

    private static void undo() {
        PipPortrait x = new PipPortrait();
        throwsState("nothing is remembered", () -> x.undo());
        for (int i = 1; i <= 20; i++) x.grey(0, 0, i);
        for (int i = 13; i >= 0; i--) {
            int left = i;
            due("undo", left, () -> x.undo());
            due("grey", 6 + left, () -> x.square(0, 0, 0));
        }
        throwsState("no more than 14", () -> x.undo());
        due("changes nothing", 6, () -> x.square(0, 0, 0));
        x.grey(1, 1, 50);
        due("undo", 0, () -> x.undo());
        throwsState("undo is no action", () -> x.undo());

        PipPortrait y = faded();
        y.hold(5, true);
        String[] states = new String[9];
        states[0] = all(y); y.turn(0);
        states[1] = all(y); y.swap(1, 2);
        states[2] = all(y); y.flip(0, 0);
        states[3] = all(y); y.hold(1, true);
        states[4] = all(y); y.lay();
        states[5] = all(y); y.improve(2);
        states[6] = all(y); y.fade(50, 60);
        states[7] = all(y); y.begin(6, 2);
        states[8] = all(y); y.grey(7, 13, 99);
        y.about(0); y.gain(0); y.best(0); y.ifImproved(3, 0); y.least(); y.worst(0); y.fits(0);
        y.runScript(1, 110000); y.simulate(5, 5); y.save(0); y.append(65); y.errorPosition(); y.clearText();
        for (int i = 8; i >= 0; i--) {
            int left = i + 3;
            due("undo", left, () -> y.undo());
            same("the state " + i, states[i], all(y));
        }
    }

    private static void gain() {
        PipPortrait x = faded();
        due("gain(0)", 0, () -> x.gain(0));
        due("gain(1)", -1960, () -> x.gain(1));
        due("gain(10102)", 2000, () -> x.gain(10102));
        due("gain(20000)", 0, () -> x.gain(20000));
        x.hold(1, true);
        x.hold(2, true);
        due("free or not", -1960, () -> x.gain(1));
        due("free or not", 2000, () -> x.gain(10102));
        due("free or not", 0, () -> x.gain(20000));
        int[] none = {-1, -10000, Integer.MIN_VALUE, 6, 99, 9999, 10000, 10006, 10101, 10201, 10505, 10506, 10600, 10607, 15556, 19999,
            20001, 20003, 20007, 20008, 20012, 20099, 29999, 30000, 30002, 40000, 100000, Integer.MAX_VALUE};
        for (int number : none) throwsArgument("gain(" + number + ")", () -> x.gain(number));
        due("gain(5)", 0, () -> x.gain(5));
        due("gain(10405)", 1700 + 400 - (3600 + 1600) - 30 * 30, () -> x.gain(10405));
        int[] blocks = {20000, 20002, 20004, 20006};
        for (int number : blocks) due("gain(" + number + ")", 0, () -> x.gain(number));
        PipPortrait y = small();
        y.grey(0, 1, 99);
        due("gain(20000)", 0, () -> y.gain(20000));
        y.turn(2);
        due("gain(20000)", -19602, () -> y.gain(20000));
        y.begin(2, 1);
        y.flip(2, 0);
        y.flip(0, 1);
        throwsArgument("no block goes round the edge", () -> y.gain(20003));
        String before = all(x);
        x.gain(10102);
        same("it changes nothing", before, all(x));
        PipPortrait z = largest();
        due("gain(55)", 0, () -> z.gain(55));
        due("gain(15455)", 0, () -> z.gain(15455));
        due("gain(15051)", 512, () -> far().gain(15051));
        throwsArgument("gain(15556)", () -> z.gain(15556));
        due("gain(20102)", 0, () -> z.gain(20102));
        throwsArgument("gain(20104)", () -> z.gain(20104));
        throwsArgument("gain(20112)", () -> z.gain(20112));
    }

    private static void best() {
        PipPortrait x = corner();
        due("the least number", 10002, () -> x.best(0));
        due("its gain", 19602, () -> x.best(1));
        x.hold(2, true);
        due("a free one", 10004, () -> x.best(0));
        x.hold(4, true);
        due("a free one", 10005, () -> x.best(0));
        due("its gain", 19602, () -> x.best(1));
        x.hold(5, true);
        due("a free one", 10001, () -> x.best(0));
        due("its gain", 9702, () -> x.best(1));
        x.hold(0, true);
        due("all others are the same", 1, () -> x.best(0));
        due("its gain", 0, () -> x.best(1));
        x.hold(3, true);
        x.grey(3, 0, 49);
        due("the only one", 1, () -> x.best(0));
        due("it may lose", -4802, () -> x.best(1));
        due("it is not done then", 0, () -> x.improve(20));
        x.hold(1, true);
        due("none is free", -1, () -> x.best(0));
        due("none is free", 0, () -> x.best(1));
        throwsArgument("best(-1)", () -> x.best(-1));
        throwsArgument("best(2)", () -> x.best(2));
        PipPortrait y = small();
        due("all gain 0", 0, () -> y.best(0));
        PipPortrait z = faded();
        z.turn(1);
        due("not the turn", z.gain(z.best(0)), () -> z.best(1));
        for (int k = 0; k < 6; k++) if (k != 1) z.hold(k, true);
        due("the turn", 1, () -> z.best(0));
        due("its gain", 1960, () -> z.best(1));
        PipPortrait last = far();
        due("places of two digits", 15051, () -> last.best(0));
        due("its gain", 512, () -> last.best(1));
        PipPortrait lower = small();
        lower.grey(2, 1, 99);
        lower.grey(2, 2, 99);
        lower.swap(3, 0);
        lower.swap(3, 5);
        for (int k = 0; k < 6; k++) if (k != 3 && k != 5) lower.hold(k, true);
        due("a flip below", 20006, () -> lower.best(0));
        PipPortrait f = block();
        due("the flip", 20000, () -> f.best(0));
        due("its gain", 19602, () -> f.best(1));
    }

    private static void ifImproved() {
        PipPortrait x = corner();
        String before = all(x);
        due("ifImproved(20, 0)", 19602, () -> x.ifImproved(20, 0));
        due("ifImproved(20, 1)", 1, () -> x.ifImproved(20, 1));
        due("ifImproved(1, 0)", 19602, () -> x.ifImproved(1, 0));
        due("ifImproved(1, 1)", 1, () -> x.ifImproved(1, 1));
        same("it changes nothing", before, all(x));
        throwsArgument("ifImproved(0, 0)", () -> x.ifImproved(0, 0));
        throwsArgument("ifImproved(21, 0)", () -> x.ifImproved(21, 0));
        throwsArgument("ifImproved(1, -1)", () -> x.ifImproved(1, -1));
        throwsArgument("ifImproved(1, 2)", () -> x.ifImproved(1, 2));
        x.improve(20);
        due("nothing is left", 0, () -> x.ifImproved(20, 0));
        due("nothing is left", 0, () -> x.ifImproved(20, 1));
        due("undo", 2, () -> x.undo());
        PipPortrait y = largest();
        y.fade(99, 0);
        int gained = y.ifImproved(20, 0);
        due("twenty", 20, () -> y.ifImproved(20, 1));
        due("seven", 7, () -> y.ifImproved(7, 1));
        due("as improve", gained, () -> y.improve(20));
    }

    private static void least() {
        PipPortrait x = small();
        due("black", 0, () -> x.least());
        x.fade(0, 99);
        due("faded", 2122, () -> x.least());
        x.fade(24, 24);
        due("24 is nearest to 0", 12 * 24 * 24, () -> x.least());
        x.fade(25, 25);
        due("25 is nearest to 49", 12 * 24 * 24, () -> x.least());
        x.fade(99, 99);
        due("white", 0, () -> x.least());
        x.fade(74, 74);
        due("74 is between", 12 * 25 * 25, () -> x.least());
        x.begin(6, 1);
        x.fade(90, 90);
        due("n 6, 90 is nearest to 82", 56 * 64, () -> x.least());
        x.fade(91, 91);
        due("n 6, 91 is nearest to 99", 56 * 64, () -> x.least());
    }

    private static void worst() {
        PipPortrait x = faded();
        int[] want = {2, 4, 1, 3, 5, 0};
        for (int rank = 0; rank < 6; rank++) {
            int r = rank;
            due("worst(" + rank + ")", want[rank], () -> x.worst(r));
        }
        throwsIndex("worst(-1)", () -> x.worst(-1));
        throwsIndex("worst(6)", () -> x.worst(6));
        x.begin(2, 2);
        int[] two = {5, 11, 4, 10, 2, 8, 3, 9, 1, 7, 0, 6};
        for (int rank = 0; rank < 12; rank++) {
            int r = rank;
            due("of several the lowest: worst(" + rank + ")", two[rank], () -> x.worst(r));
        }
        throwsIndex("worst(12)", () -> x.worst(12));
    }

    private static void fits() {
        PipPortrait x = faded();
        due("fits(0)", 0, () -> x.fits(0));
        due("fits(1)", 2, () -> x.fits(1));
        due("fits(5)", 5, () -> x.fits(5));
        x.hold(2, true);
        due("held or not", 2, () -> x.fits(1));
        PipPortrait down = small();
        down.grey(0, 0, 90);
        down.grey(2, 0, 60);
        down.grey(0, 1, 80);
        down.grey(2, 1, 70);
        down.grey(0, 2, 75);
        down.grey(2, 2, 85);
        due("the least of all", 1, () -> down.fits(1));
        down.grey(2, 0, 95);
        due("the least of all", 3, () -> down.fits(1));
        PipPortrait y = small();
        for (int t = 0; t < 6; t++) {
            int tile = t;
            due("of several the lowest", 0, () -> y.fits(tile));
        }
        y.grey(2, 2, 99);
        due("turned", 5, () -> y.fits(2));
        y.grey(3, 2, 99);
        y.grey(2, 1, 99);
        due("turned", 3, () -> y.fits(2));
        due("not turned and not fitting", 0, () -> y.fits(0));
        throwsIndex("fits(-1)", () -> x.fits(-1));
        throwsIndex("fits(6)", () -> x.fits(6));
        PipPortrait two = new PipPortrait();
        two.begin(2, 2);
        two.grey(0, 3, 99);
        due("a tile of the second set", 6, () -> two.fits(8));
        throwsIndex("fits(12)", () -> two.fits(12));
    }

    private static void runScript() {
        PipPortrait x = faded();
        String before = all(x);
        long[] good = {100000, 130299, 200000, 205000, 300010, 305000, 400000, 420000, 420100, 500001, 500020,
            600000, 605050, 700000, 705000, 800000, 830010, 810120, 909043, 999999};
        long[] bad = {0, 99999, 140000, 100300, 206000, 200001, 200010, 200100, 300000, 301010, 300060, 306000, 300011, 410000, 430000,
            400200, 440000, 400300, 400001, 400010, 500000, 500021, 500101, 501001, 510001, 600010, 606000, 600060, 606060, 600001,
            700001, 700002, 706000, 700010, 700100, 800010, 800001, 840000, 800300, 811010, 900000, 909042};
        for (long script : good) due("runScript(1, " + script + ")", -1, () -> x.runScript(1, script));
        for (long script : bad) due("runScript(1, " + script + ")", 0, () -> x.runScript(1, script));
        same("a copy of the state", before, all(x));
        due("undo", 1, () -> x.undo());
        x.fade(0, 99);

        due("steps that follow", -1, () -> x.runScript(3, 201000701001911003L));
        due("the third one fails", 2, () -> x.runScript(3, 201000701001911002L));
        due("the second one fails", 1, () -> x.runScript(3, 201000701000911003L));
        due("the first one fails", 0, () -> x.runScript(3, 206000701000911003L));
        due("a swap", -1, () -> x.runScript(3, 301020601020907043L));
        due("a swap", 2, () -> x.runScript(3, 301020601020907042L));
        due("a grey", -1, () -> x.runScript(2, 110099918483L));
        due("a grey", 1, () -> x.runScript(2, 110099918482L));
        due("an improvement", -1, () -> x.runScript(2, 500020900000L + Math.max(0, x.about(5) - x.ifImproved(20, 0))));
        due("an improvement", 1, () -> x.runScript(2, 500020900000L + Math.max(0, x.about(5) - x.ifImproved(20, 0) - 1)));
        due("a flip", -1, () -> x.runScript(2, 400000601020L));
        due("a flip", 1, () -> x.runScript(2, 400000602020L));
        due("zeros before it", 0, () -> x.runScript(2, 200000));
        due("zeros before it", 0, () -> x.runScript(3, 200000));
        due("a held place", 1, () -> { x.hold(0, true); return x.runScript(2, 100005200000L); });
        due("a held place", 0, () -> x.runScript(1, 300010));
        due("a held place", 0, () -> x.runScript(1, 400000));
        throwsArgument("n 0", () -> x.runScript(0, 0));
        throwsArgument("n 4", () -> x.runScript(4, 0));
        throwsArgument("n -1", () -> x.runScript(-1, 0));
        throwsArgument("script -1", () -> x.runScript(1, -1));
        throwsArgument("script least long", () -> x.runScript(3, Long.MIN_VALUE));
        throwsArgument("7 digits", () -> x.runScript(1, 1000000));
        throwsArgument("13 digits", () -> x.runScript(2, 1000000000000L));
        throwsArgument("19 digits", () -> x.runScript(3, 1000000000000000000L));
        throwsArgument("most long", () -> x.runScript(3, Long.MAX_VALUE));
        due("18 digits", 2, () -> x.runScript(3, 999999999999000000L));
        due("12 digits", -1, () -> x.runScript(2, 999999999999L));
        PipPortrait big = largest();
        due("the last of all", -1, () -> big.runScript(3, 655550255000171399L));
        due("the last of all", -1, () -> big.runScript(3, 871360354550461200L));
    }

    private static void simulate() {
        for (int n = 2; n <= 6; n++)
            for (int i = 0; i < 24; i++) {
                PipPortrait x = new PipPortrait();
                PipPortrait y = new PipPortrait();
                int sets = 1 + i % 2;
                x.begin(n, sets); y.begin(n, sets);
                x.fade(10, 80); y.fade(10, 80);
                x.hold(3, true); y.hold(3, true);
                long seed = i == 0 ? Long.MIN_VALUE : i == 1 ? Long.MAX_VALUE : i == 2 ? -1 : 1000003L * i * i * n;
                int m = i < 3 ? 30 : i < 12 ? 1 : 1 + i % 30;
                String before = all(x);
                due("simulate(" + seed + ", " + m + ") of n " + n, step(y, seed, m), () -> x.simulate(seed, m));
                same("a copy of the state", before, all(x));
                due("undo", 2, () -> x.undo());
            }
        PipPortrait x = small();
        throwsArgument("m 0", () -> x.simulate(1, 0));
        throwsArgument("m 31", () -> x.simulate(1, 31));
        throwsArgument("m -1", () -> x.simulate(1, -1));
    }

    // Does the turns by the calls of the face.
    private static int step(PipPortrait y, long seed, int m) {
        long s = seed;
        for (int i = 0; i < m; i++) {
            s = s * 6364136223846793005L + 1442695040888963407L;
            int r = (int) (s >>> 33);
            int q = r / 8;
            try {
                int kind = r % 8;
                if (kind < 2) y.grey(q % 8, q / 8 % 14, q / 128 % 100);
                else if (kind == 2) y.turn(q % 56);
                else if (kind < 5) y.swap(q % 56, q / 64 % 56);
                else if (kind == 5) y.flip(q % 8, q / 8 % 14);
                else if (kind == 7) y.improve(1 + q % 4);
                else if (q % 4 == 0) y.fade(q % 100, q / 128 % 100);
                else y.lay();
            } catch (IndexOutOfBoundsException | IllegalArgumentException | IllegalStateException e) {
                continue;
            }
        }
        return y.about(5);
    }

    private static void save() {
        PipPortrait x = faded();
        due("save(0)", 9043, () -> x.save(0));
        x.fade(0, 0);
        due("save(1)", 48808, () -> x.save(1));
        throwsIndex("save(-1)", () -> x.save(-1));
        throwsIndex("save(2)", () -> x.save(2));
        due("it is no action", 2, () -> x.undo());
        due("slot 0", 9043, () -> x.restore(0));
        due("slot 1", 48808, () -> x.restore(1));
        x.turn(1);
        x.save(0);
        due("the new one", 1, () -> { x.restore(0); return x.about(7); });
    }

    private static void restore() {
        PipPortrait x = faded();
        throwsIndex("restore(-1)", () -> x.restore(-1));
        throwsIndex("restore(2)", () -> x.restore(2));
        throwsState("restore(0)", () -> x.restore(0));
        throwsState("restore(1)", () -> x.restore(1));
        due("nothing is forgotten", 1, () -> x.undo());
        x.fade(0, 99);
        x.turn(1); x.hold(4, true); x.flip(0, 0);
        String saved = all(x);
        x.save(1);
        throwsState("restore(0)", () -> x.restore(0));
        x.begin(6, 2);
        due("restore(1)", 9043 + 1960, () -> x.restore(1));
        same("all of it", saved, all(x));
        due("the changes", 2, () -> x.about(10));
        throwsState("all remembered states are forgotten", () -> x.undo());
        x.swap(0, 5);
        due("remembered anew", 0, () -> x.undo());
        x.swap(0, 5);
        due("the slot keeps it", 9043 + 1960, () -> x.restore(1));
        same("all of it", saved, all(x));
        write(x, "D31");
        x.load();
        throwsState("emptied by load", () -> x.restore(1));
        throwsState("emptied by load", () -> x.restore(0));
        due("save(0)", 76230, () -> x.save(0));
        due("restore(0)", 76230, () -> x.restore(0));
    }
}
