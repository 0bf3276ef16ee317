/** For each argument: every one that is allowed is answered, the one beyond each end is not. In all ten sizes where that matters. */
public final class RangesTest {
    private static final Check CHECK = new Check();

    private interface Of {
        int at(int argument);
    }

    public static void main(String[] args) {
        withoutSizes();
        for (int n = 2; n <= 6; n++)
            for (int sets = 1; sets <= 2; sets++) {
                CHECK.sentence("n " + n + ", sets " + sets);
                looks(n, sets);
                actions(n, sets);
                flips(n, sets);
                whatWouldBe(n, sets);
                changes(n, sets);
            }
        CHECK.end("RangesTest");
    }

    private static void range(String call, int least, int most, String exception, Of of) {
        for (int i = least; i <= most; i++) {
            int argument = i;
            CHECK.due(call + " at " + i + " answers", 1, () -> of.at(argument) > Integer.MIN_VALUE ? 1 : 0);
        }
        for (int i : new int[] {least - 1, most + 1, Integer.MIN_VALUE, Integer.MAX_VALUE})
            CHECK.thrown(call + " at " + i, exception, () -> of.at(i));
    }

    private static void withoutSizes() {
        range("append", 0, 255, Check.ARGUMENT, i -> new PipPortrait().append(i));
        range("about", 0, 10, Check.ARGUMENT, i -> new PipPortrait().about(i));
        range("begin, n", 2, 6, Check.ARGUMENT, i -> new PipPortrait().begin(i, 1));
        range("begin, n with two sets", 2, 6, Check.ARGUMENT, i -> new PipPortrait().begin(i, 2));
        range("begin, sets", 1, 2, Check.ARGUMENT, i -> new PipPortrait().begin(6, i));
        range("fade, from", 0, 99, Check.ARGUMENT, i -> new PipPortrait().fade(i, 0));
        range("fade, to", 0, 99, Check.ARGUMENT, i -> new PipPortrait().fade(99, i));
        range("improve", 1, 20, Check.ARGUMENT, i -> new PipPortrait().improve(i));
        range("best", 0, 1, Check.ARGUMENT, i -> new PipPortrait().best(i));
        range("ifImproved, most", 1, 20, Check.ARGUMENT, i -> new PipPortrait().ifImproved(i, 0));
        range("ifImproved, what", 0, 1, Check.ARGUMENT, i -> new PipPortrait().ifImproved(1, i));
        range("runScript, n", 1, 3, Check.ARGUMENT, i -> new PipPortrait().runScript(i, 0));
        range("simulate, m", 1, 30, Check.ARGUMENT, i -> new PipPortrait().simulate(0, i));
        range("save", 0, 1, Check.INDEX, i -> new PipPortrait().save(i));
        range("restore", 0, 1, Check.INDEX, i -> filled().restore(i));
    }

    private static PipPortrait filled() {
        PipPortrait x = new PipPortrait();
        x.save(0);
        x.save(1);
        return x;
    }

    private static void looks(int n, int sets) {
        int columns = n + 2, rows = (n + 1) * sets, tiles = Looks.tiles(n, sets);
        range("square, x", 0, columns - 1, Check.INDEX, i -> Looks.of(n, sets).square(i, 0, 0));
        range("square, y", 0, rows - 1, Check.INDEX, i -> Looks.of(n, sets).square(0, i, 0));
        range("square, what", 0, 4, Check.ARGUMENT, i -> Looks.of(n, sets).square(columns - 1, rows - 1, i));
        range("place, k", 0, tiles - 1, Check.INDEX, i -> Looks.of(n, sets).place(i, 0));
        range("place, what", 0, 6, Check.ARGUMENT, i -> Looks.of(n, sets).place(tiles - 1, i));
        range("tile, t", 0, tiles - 1, Check.INDEX, i -> Looks.of(n, sets).tile(i, 0));
        range("tile, what", 0, 2, Check.ARGUMENT, i -> Looks.of(n, sets).tile(tiles - 1, i));
    }

    private static void actions(int n, int sets) {
        int columns = n + 2, rows = (n + 1) * sets, tiles = Looks.tiles(n, sets);
        range("grey, x", 0, columns - 1, Check.INDEX, i -> Looks.of(n, sets).grey(i, rows - 1, 1));
        range("grey, y", 0, rows - 1, Check.INDEX, i -> Looks.of(n, sets).grey(columns - 1, i, 1));
        range("grey, grey", 0, 99, Check.ARGUMENT, i -> Looks.of(n, sets).grey(columns - 1, rows - 1, i));
        range("turn", 0, tiles - 1, Check.INDEX, i -> Looks.of(n, sets).turn(i));
        range("swap, one", 0, tiles - 2, Check.INDEX, i -> Looks.of(n, sets).swap(i == tiles - 1 ? tiles : i, tiles - 1));
        range("swap, other", 1, tiles - 1, Check.INDEX, i -> Looks.of(n, sets).swap(0, i == 0 ? -1 : i));
        range("hold", 0, tiles - 1, Check.INDEX, i -> Looks.of(n, sets).hold(i, true));
        range("hold, let go", 0, tiles - 1, Check.INDEX, i -> Looks.of(n, sets).hold(i, false));
        for (int i = 0; i < tiles; i++) {
            int k = i;
            CHECK.thrown("swap(" + k + ", " + k + ")", Check.ARGUMENT, () -> Looks.of(n, sets).swap(k, k));
            CHECK.thrown("turn(" + k + "), held", Check.STATE, () -> held(n, sets, k).turn(k));
            CHECK.due("turn beside " + k, 0, () -> held(n, sets, k).turn(k == 0 ? tiles - 1 : 0));
        }
    }

    private static PipPortrait held(int n, int sets, int k) {
        PipPortrait x = Looks.of(n, sets);
        x.hold(k, true);
        return x;
    }

    // Places lie along rows, so blocks begin on their first squares, but not in the last row; or along
    // columns in pairs of rows: then on the upper row of each pair, but not in the last column.
    private static boolean hasBlock(int n, int sets, int column, int row) {
        boolean alongRows = n % 2 == 0;
        return alongRows ? column % 2 == 0 && row < (n + 1) * sets - 1 : row % 2 == 0 && column < n + 1;
    }

    private static void flips(int n, int sets) {
        int columns = n + 2, rows = (n + 1) * sets;
        int blocks = 0;
        for (int column = -1; column <= columns; column++)
            for (int row = -1; row <= rows; row++) {
                int a = column, b = row;
                boolean inside = a >= 0 && b >= 0 && a < columns && b < rows;
                String call = "flip(" + a + ", " + b + ")";
                if (!inside) CHECK.thrown(call, Check.INDEX, () -> Looks.of(n, sets).flip(a, b));
                else if (!hasBlock(n, sets, a, b)) CHECK.thrown(call, Check.STATE, () -> Looks.of(n, sets).flip(a, b));
                else {
                    blocks++;
                    CHECK.due(call + " turns both places", 2, () -> flipped(n, sets, a, b));
                }
            }
        int count = blocks;
        CHECK.due("about(9)", count, () -> Looks.of(n, sets).about(9));
    }

    private static int flipped(int n, int sets, int column, int row) {
        PipPortrait x = Looks.of(n, sets);
        int before = x.about(6);
        x.flip(column, row);
        return Math.abs(x.about(6) - before);
    }

    private static void whatWouldBe(int n, int sets) {
        int tiles = Looks.tiles(n, sets);
        range("worst", 0, tiles - 1, Check.INDEX, i -> Looks.of(n, sets).worst(i));
        range("fits", 0, tiles - 1, Check.INDEX, i -> Looks.of(n, sets).fits(i));
    }

    // Each number from below 0 to above all kinds: exactly those of changes that are possible are answered.
    private static void changes(int n, int sets) {
        int columns = n + 2, rows = (n + 1) * sets, tiles = Looks.tiles(n, sets);
        PipPortrait x = Looks.of(n, sets);
        int calls = 1;
        for (int number = -101; number <= 30101; number++) {
            if (calls++ == 500) {
                x = Looks.of(n, sets);
                calls = 2;
            }
            int rest = number % 10000, kind = number / 10000;
            boolean possible = kind == 0 && rest >= 0 && rest < tiles;
            if (kind == 1) possible = rest / 100 < rest % 100 && rest % 100 < tiles;
            if (kind == 2) possible = rest < columns * rows && hasBlock(n, sets, rest % columns, rest / columns);
            String told = told(x, number);
            CHECK.same("gain(" + number + ") is answered", Boolean.toString(possible), Boolean.toString(!told.equals(Check.ARGUMENT)));
        }
    }

    private static String told(PipPortrait x, int number) {
        return Check.told(() -> x.gain(number));
    }
}
