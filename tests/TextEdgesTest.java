/** Texts at the edges of what is a portrait, and what load() leaves out. */
public final class TextEdgesTest {
    private static final Check CHECK = new Check();
    // Each kind of command once; the ends of the commands, and of the head.
    private static final String ALL = "D62p71399f0099t55s0055b713h55li20";
    private static final int[] ENDS = {3, 9, 14, 17, 22, 26, 29, 30, 33};

    public static void main(String[] args) {
        heads();
        fields();
        tooSoon();
        wrongSigns();
        lengths();
        nothingThereYet();
        loadsEachSize();
        leavesOut();
        leftOutChangesNothing();
        keepsTheText();
        forgets();
        CHECK.end("TextEdgesTest");
    }

    private static void error(String text, int position) {
        CHECK.due("errorPosition() of '" + text + "'", position, () -> Looks.with(text).errorPosition());
        if (position == -1) CHECK.due("load() of '" + text + "' answers", 1, () -> Looks.with(text).load() >= 0 ? 1 : 0);
        else CHECK.thrown("load() of '" + text + "'", Check.STATE, () -> Looks.with(text).load());
    }

    private static void heads() {
        CHECK.sentence("A portrait as a text is the letter D, a digit for n (2 to 6), one for the sets (1 or 2)");
        for (int c = 0; c <= 255; c++) {
            error("" + (char) c, c == 'D' ? 1 : 0);
            error((char) c + "21", c == 'D' ? -1 : 0);
            error("D" + (char) c, c >= '2' && c <= '6' ? 2 : 1);
            error("D" + (char) c + "1", c >= '2' && c <= '6' ? -1 : 1);
            error("D6" + (char) c, c == '1' || c == '2' ? -1 : 2);
        }
    }

    private static void fields() {
        CHECK.sentence("a column is a digit (0 to 7)");
        digit("p", "0000", '7');
        digit("b", "00", '7');
        CHECK.sentence("a row two digits (00 to 13)");
        twoDigits("p0", "00", 0, 13);
        twoDigits("b7", "", 0, 13);
        CHECK.sentence("a grey two digits (00 to 99)");
        twoDigits("p713", "", 0, 99);
        twoDigits("f", "00", 0, 99);
        twoDigits("f99", "", 0, 99);
        CHECK.sentence("a place two digits (00 to 55)");
        twoDigits("t", "", 0, 55);
        twoDigits("s", "00", 0, 55);
        twoDigits("s55", "", 0, 55);
        twoDigits("h", "", 0, 55);
        CHECK.sentence("i and two digits (01 to 20)");
        twoDigits("i", "", 1, 20);
    }

    // One digit behind the letter, then a rest that is allowed.
    private static void digit(String letter, String rest, char most) {
        for (int c = 0; c <= 255; c++) error("D21" + letter + (char) c + rest, c >= '0' && c <= most ? -1 : 4);
    }

    // A digit is not allowed if no number that is allowed begins with it and those before it.
    private static void twoDigits(String before, String behind, int least, int most) {
        int at = 3 + before.length();
        for (int number = 0; number <= 99; number++) {
            String two = (number < 10 ? "0" : "") + number;
            boolean allowed = number >= least && number <= most;
            boolean begins = 10 * (number / 10) <= most;
            error("D21" + before + two + behind, allowed ? -1 : begins ? at + 1 : at);
        }
        for (int c = 0; c <= 255; c++) {
            if (c >= '0' && c <= '9') continue;
            error("D21" + before + (char) c + "0" + behind, at);
            error("D21" + before + "1" + (char) c + behind, at + 1);
        }
    }

    private static void tooSoon() {
        CHECK.sentence("if the text ends too soon, it is the length of the text");
        for (int length = 0; length <= ALL.length(); length++) {
            boolean whole = false;
            for (int end : ENDS) whole |= end == length;
            error(ALL.substring(0, length), whole ? -1 : length);
        }
    }

    private static void wrongSigns() {
        CHECK.sentence("the index of the first character that these rules do not allow at its place");
        for (int i = 0; i < ALL.length(); i++)
            for (char c : new char[] {0, 1, ' ', '/', ':', 'D', 'P', 'x', 127, 128, 255})
                if (i > 0 || c != 'D') {
                    error(ALL.substring(0, i) + c + ALL.substring(i + 1), i);
                    error(ALL.substring(0, i) + c + c, i);
                }
        CHECK.sentence("There are no blanks");
        for (int i = 0; i <= ALL.length(); i++) error(ALL.substring(0, i) + " " + ALL.substring(i), i);
        CHECK.sentence("any number of commands");
        for (int c = 0; c <= 255; c++) {
            String longer = ALL + (char) c;
            error(longer, c == 'l' ? -1 : "pftsbhi".indexOf(c) >= 0 ? longer.length() : longer.length() - 1);
        }
    }

    private static void lengths() {
        CHECK.sentence("a text buffer of at most 120 characters");
        error("D21" + "l".repeat(116), -1);
        error("D21" + "l".repeat(117), -1);
        error("D21" + "t00".repeat(39), -1);
        error("D21" + "l" + "b000".repeat(29), -1);
        error("D21" + "l".repeat(116) + "t", 120);
        error("D21" + "l".repeat(113) + "t0", 118);
        error("D21" + "l".repeat(114) + "f00", 120);
        error("D21" + "l".repeat(116) + "L", 119);
        error("x".repeat(120), 0);
        CHECK.sentence("IllegalStateException if the text already has 120 characters");
        PipPortrait x = new PipPortrait();
        for (int i = 1; i <= 120; i++) {
            int length = i;
            CHECK.due("append, the new length", length, () -> x.append('l'));
        }
        CHECK.thrown("the 121st", Check.STATE, () -> x.append('l'));
        CHECK.due("clearText()", 120, () -> x.clearText());
        CHECK.due("append behind it", 1, () -> x.append('l'));
    }

    private static void nothingThereYet() {
        CHECK.sentence("Returns the previous length of the text");
        PipPortrait x = new PipPortrait();
        CHECK.due("clearText() of a new object", 0, () -> x.clearText());
        CHECK.due("clearText() again", 0, () -> x.clearText());
        CHECK.due("the first append", 1, () -> x.append(0));
        CHECK.due("clearText()", 1, () -> x.clearText());
        CHECK.sentence("Returns the error position of the text");
        CHECK.due("of an empty text", 0, () -> x.errorPosition());
        CHECK.due("of a new object", 0, () -> new PipPortrait().errorPosition());
        Looks.write(x, "D21");
        x.clearText();
        CHECK.due("of a text that was emptied", 0, () -> x.errorPosition());
        x.append('D');
        CHECK.due("what stood behind is gone", 1, () -> x.errorPosition());
        CHECK.thrown("what stood behind is gone", Check.STATE, () -> x.load());
    }

    private static void loadsEachSize() {
        CHECK.sentence("Makes everything as by begin() in a new object, with n and the sets that are told");
        for (int n = 2; n <= 6; n++)
            for (int sets = 1; sets <= 2; sets++) {
                PipPortrait x = Looks.busyWith("D" + n + sets);
                CHECK.due("load()", 0, () -> x.load());
                CHECK.same("D" + n + sets, Looks.state(Looks.of(n, sets)), Looks.state(x));
            }
    }

    private static void out(String text, int count) {
        CHECK.due("load() of " + text, count, () -> Looks.with(text).load());
    }

    private static void leavesOut() {
        CHECK.sentence("Returns the number of commands that are left out");
        out("D21", 0);
        out("D21" + "l".repeat(117), 0);
        out("D21" + "t55".repeat(39), 39);
        out("D62" + "t55".repeat(39), 0);
        out("D62p71399p00000", 0);
        out("D61p70699p70799", 1);
        out("D52p61199p71199p61299", 2);
        out("D21p30299p40299p30399", 2);
        out("D62t55t00h55t55", 1);
        out("D61t27t28", 1);
        out("D62s0055s5500s5455s5555s0000", 2);
        out("D61s0027s2700s0028s2800", 2);
        out("D62b612b000b712b613b713", 3);
        out("D61b605b606", 1);
        out("D51b604b504b500b600b501", 3);
        out("D62h55h00", 0);
        out("D61h27h28", 1);
        out("D21h00t00s0001s0100b000h00t01s0102b201", 4);
        out("D21h02b000b200", 1);
        out("D21f9900f0099i01i20l", 0);
    }

    private static void leftOutChangesNothing() {
        CHECK.sentence("Commands that would throw an exception are left out");
        String done = "D21f1090t01s0305b200p30299h03l";
        String more = "D21t06f1090p40299t01s0606p30399s0305b300b200b002p30299h06h03t03s0300s0003s0303l";
        PipPortrait x = Looks.with(done);
        PipPortrait y = Looks.with(more);
        CHECK.due("load() of " + done, 0, () -> x.load());
        CHECK.due("load() of " + more, 11, () -> y.load());
        CHECK.same("nothing is changed by them", Looks.state(x), Looks.state(y));
        CHECK.sentence("h and a place: hold(), held");
        CHECK.due("twice the same", 1, () -> about(8, "D21h03h03"));
        CHECK.due("the greatest", 1, () -> about(8, "D62h55"));
        CHECK.sentence("p, a column, a row, and a grey: grey()");
        for (String text : new String[] {"p71300", "p71399", "p71301", "p71310", "p01299", "p71045", "p00012", "p70054"}) {
            PipPortrait z = Looks.with("D62" + text);
            z.load();
            int column = text.charAt(1) - '0', row = Integer.parseInt(text.substring(2, 4));
            CHECK.due("D62" + text, Integer.parseInt(text.substring(4)), () -> z.square(column, row, 0));
        }
        CHECK.sentence("f, two greys: fade()");
        for (String text : new String[] {"f0099", "f9900", "f0110", "f1001", "f0000", "f9999", "f5847"}) {
            PipPortrait z = Looks.with("D62" + text);
            z.load();
            CHECK.due("D62" + text, Integer.parseInt(text.substring(1, 3)), () -> z.square(0, 0, 0));
            CHECK.due("D62" + text, Integer.parseInt(text.substring(3)), () -> z.square(7, 13, 0));
        }
        CHECK.sentence("t and a place: turn(); s, a place, and a place: swap(); b, a column, and a row: flip()");
        for (int k : new int[] {0, 1, 9, 10, 19, 20, 49, 50, 54, 55}) {
            String two = (k < 10 ? "0" : "") + k;
            int other = k == 10 ? 5 : 10;
            String three = other == 5 ? "05" : "10";
            PipPortrait z = Looks.with("D62t" + two + "s" + two + three);
            CHECK.due("load()", 0, () -> z.load());
            CHECK.due("s" + two + three, other, () -> z.place(k, 2));
            CHECK.due("s" + two + three, k, () -> z.place(other, 2));
            CHECK.due("t" + two, 1, () -> {
                PipPortrait turned = Looks.with("D62t" + two);
                turned.load();
                return turned.place(k, 3);
            });
        }
        for (String text : new String[] {"b000", "b600", "b612", "b012", "b205", "b410"}) {
            PipPortrait z = Looks.with("D62" + text);
            CHECK.due("load()", 0, () -> z.load());
            int column = text.charAt(1) - '0', row = Integer.parseInt(text.substring(2));
            CHECK.due("D62" + text, 8 * (row + 1) + column, () -> z.place(z.square(column, row, 3), 1));
        }
        CHECK.sentence("i and two digits (01 to 20): improve()");
        for (int most = 1; most <= 20; most++) {
            String two = (most < 10 ? "0" : "") + most;
            PipPortrait z = Looks.of(6, 2);
            z.fade(99, 0);
            z.improve(most);
            CHECK.due("D62f9900i" + two, z.about(5), () -> about(5, "D62f9900i" + two));
        }
    }

    private static int about(int what, String text) {
        PipPortrait x = Looks.with(text);
        x.load();
        return x.about(what);
    }

    private static void keepsTheText() {
        CHECK.sentence("Keeps the text, also if it throws the exception");
        for (String text : new String[] {"", "D", "D21", "D21t0", ALL, Looks.FULL, "D21" + "l".repeat(116) + "i"}) {
            PipPortrait x = Looks.with(text);
            int position = x.errorPosition();
            String first = Check.told(x::load);
            CHECK.due("errorPosition() behind load() of '" + text + "'", position, () -> x.errorPosition());
            CHECK.same("load() again", first, Check.told(x::load));
            CHECK.due("clearText() behind load()", text.length(), () -> x.clearText());
        }
    }

    private static void forgets() {
        CHECK.sentence("Behind it no state is remembered, and both save slots are empty");
        PipPortrait x = Looks.busyWith("D21t00t01");
        x.load();
        CHECK.thrown("undo()", Check.STATE, () -> x.undo());
        CHECK.thrown("restore(0)", Check.STATE, () -> x.restore(0));
        CHECK.thrown("restore(1)", Check.STATE, () -> x.restore(1));
        CHECK.due("the commands stand", 2, () -> x.about(7));
        x.turn(2);
        CHECK.due("only what comes behind is remembered", 0, () -> x.undo());
        CHECK.due("undone", 2, () -> x.about(7));
    }
}
