/** Numbers at the ends of what the terms and the promises tell: first and last squares, places, tiles and changes, ties, roundings, none and all. */
public final class EdgesTest {
    private static final Check CHECK = new Check();
    private static final int[][] SHADES = {{0, 49, 99}, {0, 33, 66, 99}, {0, 24, 49, 74, 99}, {0, 19, 39, 59, 79, 99}, {0, 16, 33, 49, 66, 82, 99}};

    public static void main(String[] args) {
        for (int n = 2; n <= 6; n++)
            for (int sets = 1; sets <= 2; sets++) {
                sizes(n, sets);
                tiles(n, sets);
                squares(n, sets);
                places(n, sets);
                errors(n, sets);
                fades(n, sets);
                firstAndLastChanges(n, sets);
                holdsAll(n, sets);
                leastOfAll(n, sets);
                ranks(n, sets);
                fitting(n, sets);
                eachPlaceOnce(n, sets);
            }
        ranksOfTwo();
        roundings();
        laidOnTies();
        layTies();
        layHeld();
        flipsAtTheEdge();
        flipsThatNumberAnew();
        bestOfNone();
        bestOfSeveral();
        bestOfNoneBehindOthers();
        improveDoesBestChanges();
        improveStops();
        improveCounts();
        fitsTies();
        fromLargeToSmall();
        CHECK.end("EdgesTest");
    }

    private static void sizes(int n, int sets) {
        CHECK.sentence("The picture has n + 2 columns and (n + 1) times the sets rows of squares: two for each tile");
        PipPortrait x = new PipPortrait();
        int[] tiles = {6, 10, 15, 21, 28};
        int count = tiles[n - 2] * sets;
        CHECK.due("begin(" + n + ", " + sets + ")", count, () -> x.begin(n, sets));
        int[] due = {n, sets, n + 2, (n + 1) * sets, count};
        for (int what = 0; what < due.length; what++) {
            int number = what;
            CHECK.due("about(" + what + ")", due[what], () -> x.about(number));
        }
        CHECK.sentence("otherwise along columns");
        CHECK.due("about(6) of n " + n, n % 2 == 0 ? count : 0, () -> x.about(6));
        CHECK.sentence("A place is held, or not (at first)");
        CHECK.due("about(8)", 0, () -> x.about(8));
        CHECK.due("about(7)", 0, () -> x.about(7));
        CHECK.due("about(10)", 0, () -> x.about(10));
    }

    private static void tiles(int n, int sets) {
        CHECK.sentence("those of a second set behind those of the first one");
        PipPortrait x = Looks.of(n, sets);
        int[][] due = {{0, 0, 0}, {1, 0, 1}, {n, 0, n}, {n + 1, 1, 1}, {2 * n, 1, n}, {2 * n + 1, 2, 2}};
        int one = Looks.tiles(n, 1);
        for (int set = 0; set < sets; set++) {
            for (int[] row : due) tile(x, set * one + row[0], row[1], row[2]);
            tile(x, set * one + one - 1, n, n);
            tile(x, set * one + one - 2, n - 1, n);
            tile(x, set * one + one - 3, n - 1, n - 1);
        }
    }

    private static void tile(PipPortrait x, int t, int a, int b) {
        CHECK.due("tile(" + t + ", 0)", a, () -> x.tile(t, 0));
        CHECK.due("tile(" + t + ", 1)", b, () -> x.tile(t, 1));
        CHECK.due("tile(" + t + ", 2)", t, () -> x.tile(t, 2));
    }

    private static void squares(int n, int sets) {
        CHECK.sentence("a grey of 0 to 99, at first 0");
        int right = n + 1, low = (n + 1) * sets - 1;
        PipPortrait x = Looks.of(n, sets);
        int[][] corners = {{0, 0}, {right, 0}, {0, low}, {right, low}};
        for (int[] corner : corners) {
            int column = corner[0], row = corner[1];
            CHECK.due("at first", 0, () -> x.square(column, row, 0));
            CHECK.due("the greatest", 0, () -> x.grey(column, row, 99));
            CHECK.due("is there", 99, () -> x.square(column, row, 0));
            CHECK.due("the least", 99, () -> x.grey(column, row, 0));
            CHECK.due("is there", 0, () -> x.grey(column, row, 10 + column + row));
        }
        for (int[] corner : corners) {
            int column = corner[0], row = corner[1];
            CHECK.due("each corner by itself", 10 + column + row, () -> x.square(column, row, 0));
        }
        CHECK.due("a neighbour", 0, () -> x.square(1, 0, 0));
        CHECK.due("a neighbour", 0, () -> x.square(0, 1, 0));
    }

    private static void places(int n, int sets) {
        CHECK.sentence("At first all places lie along rows if the columns are even, otherwise along columns, from the square 0 on");
        PipPortrait x = Looks.of(n, sets);
        int columns = n + 2, count = Looks.tiles(n, sets);
        for (int k : new int[] {0, 1, columns / 2 - 1, columns / 2, columns - 1, columns % count, count - 2, count - 1}) {
            boolean even = columns % 2 == 0;
            int first = even ? 2 * k : k / columns * 2 * columns + k % columns;
            int other = even ? first + 1 : first + columns;
            CHECK.due("first of " + k, first, () -> x.place(k, 0));
            CHECK.due("other of " + k, other, () -> x.place(k, 1));
            CHECK.due("tile of " + k, k, () -> x.place(k, 2));
            CHECK.due("turned " + k, 0, () -> x.place(k, 3));
            CHECK.due("held " + k, 0, () -> x.place(k, 5));
            CHECK.due("along a row " + k, even ? 1 : 0, () -> x.place(k, 6));
            CHECK.due("place of its first square", k, () -> x.square(first % columns, first / columns, 3));
            CHECK.due("place of its other square", k, () -> x.square(other % columns, other / columns, 3));
        }
    }

    private static void errors(int n, int sets) {
        CHECK.sentence("A half of a tile with p pips has the grey 99 * p / n");
        PipPortrait x = Looks.of(n, sets);
        int columns = n + 2;
        // The tiles 0 b are the first ones, so their other halves lie on the other squares of the first places.
        for (int p = 0; p <= n; p++) {
            int pips = p, shade = SHADES[n - 2][p], other = x.place(p, 1);
            CHECK.due("pips", pips, () -> x.square(other % columns, other / columns, 4));
            CHECK.due("shade of " + p + " of " + n, shade, () -> x.square(other % columns, other / columns, 1));
            CHECK.due("error of a square", shade * shade, () -> x.square(other % columns, other / columns, 2));
            CHECK.due("error of a place", shade * shade, () -> x.place(pips, 4));
        }
        CHECK.sentence("that of the portrait is all of these");
        int sum = 0;
        for (int a = 0; a <= n; a++)
            for (int b = a; b <= n; b++) sum += SHADES[n - 2][a] * SHADES[n - 2][a] + SHADES[n - 2][b] * SHADES[n - 2][b];
        int dark = sum * sets;
        CHECK.due("about(5) of black", dark, () -> x.about(5));
        CHECK.due("save(0)", dark, () -> x.save(0));
        x.fade(99, 99);
        CHECK.due("about(5) of white", white(n) * sets, () -> x.about(5));
    }

    private static int white(int n) {
        int sum = 0;
        for (int a = 0; a <= n; a++)
            for (int b = a; b <= n; b++) {
                int one = 99 - SHADES[n - 2][a], other = 99 - SHADES[n - 2][b];
                sum += one * one + other * other;
            }
        return sum;
    }

    private static void fades(int n, int sets) {
        CHECK.sentence("with m as the columns and the rows less 2, together");
        int right = n + 1, low = (n + 1) * sets - 1, m = right + low;
        for (int[] ends : new int[][] {{0, 99}, {99, 0}, {0, 0}, {99, 99}, {0, 1}, {1, 0}, {99, 98}, {98, 99}, {50, 51}}) {
            int from = ends[0], to = ends[1];
            PipPortrait x = Looks.of(n, sets);
            int error = x.fade(from, to);
            CHECK.due("the error", error, () -> x.about(5));
            for (int column = 0; column <= right; column++)
                for (int row = 0; row <= low; row++) {
                    int way = column + row;
                    int a = column, b = row;
                    int grey = (from * (m - way) + to * way) / m;
                    CHECK.due("fade(" + from + ", " + to + ") at " + a + " " + b, grey, () -> x.square(a, b, 0));
                }
            CHECK.due("the upper left square", from, () -> x.square(0, 0, 0));
            CHECK.due("the lower right one", to, () -> x.square(right, low, 0));
        }
    }

    private static PipPortrait uneven(int n, int sets) {
        PipPortrait x = Looks.of(n, sets);
        x.fade(93, 4);
        for (int i = 0; i < n; i++) x.grey(i, i % (n + 1), 17 * i % 100);
        return x;
    }

    // A change is told by a number; its gain is what doing it returns, and what the error becomes less.
    private static void firstAndLastChanges(int n, int sets) {
        CHECK.sentence("10000 times its kind, and for the kind 0 the place");
        int last = Looks.tiles(n, sets) - 1;
        int columns = n + 2, rows = (n + 1) * sets;
        change(n, sets, 0, x -> x.turn(0));
        change(n, sets, last, x -> x.turn(last));
        CHECK.sentence("for the kind 1 100 times the one place and the other one, which is greater, together");
        change(n, sets, 10001, x -> x.swap(0, 1));
        change(n, sets, 10001, x -> x.swap(1, 0));
        change(n, sets, 10000 + last, x -> x.swap(0, last));
        change(n, sets, 10000 + 100 * (last - 1) + last, x -> x.swap(last, last - 1));
        CHECK.sentence("for the kind 2 the upper left square");
        change(n, sets, 20000, x -> x.flip(0, 0));
        int lowest = 20000 + (rows - 2) * columns + columns - 2;
        change(n, sets, lowest, x -> x.flip(columns - 2, rows - 2));
        for (int beyond : new int[] {-1, last + 1, 10000, 10000 + last + 1, 10000 + 101 * last, 10000 + 100 * last + last + 1, 20001 + n % 2 * n,
            lowest + 1, lowest + columns, 20000 + columns * rows - 1, 20000 + columns * rows, 30000})
            CHECK.thrown("gain(" + beyond + ")", Check.ARGUMENT, () -> uneven(n, sets).gain(beyond));
    }

    private static void change(int n, int sets, int number, Looks.Doing doing) {
        PipPortrait x = uneven(n, sets);
        int before = x.about(5);
        int gain = x.gain(number);
        CHECK.due("change " + number, gain, () -> doing.on(x));
        CHECK.due("the error behind " + number, before - gain, () -> x.about(5));
        CHECK.due("one change", 1, () -> x.about(10));
        x.undo();
        CHECK.due("gain(" + number + ") again", gain, () -> x.gain(number));
    }

    private static void holdsAll(int n, int sets) {
        CHECK.sentence("Returns the held places then");
        PipPortrait x = Looks.of(n, sets);
        int count = Looks.tiles(n, sets);
        for (int k = 0; k < count; k++) {
            int place = k;
            CHECK.due("hold(" + k + ", true)", k + 1, () -> x.hold(place, true));
        }
        CHECK.due("all, again", count, () -> x.hold(count - 1, true));
        CHECK.sentence("NONE for 0 if none is possible and free; 0 for 1 then");
        CHECK.due("best(0)", -1, () -> x.best(0));
        CHECK.due("best(1)", 0, () -> x.best(1));
        CHECK.due("improve(20)", 0, () -> x.improve(20));
        CHECK.due("ifImproved(20, 0)", 0, () -> x.ifImproved(20, 0));
        CHECK.due("ifImproved(20, 1)", 0, () -> x.ifImproved(20, 1));
        CHECK.due("lay()", 0, () -> x.lay());
        x.hold(count - 1, false);
        CHECK.due("the last one alone: it can be turned", count - 1, () -> x.best(0));
        for (int k = count - 2; k >= 0; k--) {
            int place = k;
            CHECK.due("hold(" + k + ", false)", k, () -> x.hold(place, false));
        }
        CHECK.due("none, again", 0, () -> x.hold(0, false));
    }

    private static void leastOfAll(int n, int sets) {
        CHECK.sentence("the least error that a half of any pips, 0 to n, could have there");
        PipPortrait x = Looks.of(n, sets);
        int squares = 2 * Looks.tiles(n, sets);
        for (int grey = 0; grey <= 99; grey++) {
            int least = Integer.MAX_VALUE;
            for (int shade : SHADES[n - 2]) least = Math.min(least, (grey - shade) * (grey - shade));
            int due = squares * least;
            x.fade(grey, grey);
            CHECK.due("least() of " + grey, due, () -> x.least());
        }
    }

    private static void ranks(int n, int sets) {
        CHECK.sentence("by errors, the greatest first, of several the lowest place");
        PipPortrait x = Looks.of(n, sets);
        int count = Looks.tiles(n, sets);
        int last = Looks.tiles(n, 1) - 1;
        CHECK.due("worst(0) is the tile of the most pips", last, () -> x.worst(0));
        if (sets == 2) CHECK.due("worst(1), of the second set", count - 1, () -> x.worst(1));
        CHECK.due("the last but one of a set", sets == 1 ? 0 : last + 1, () -> x.worst(count - 1));
        int sum = 0;
        int error = Integer.MAX_VALUE, before = -1;
        for (int rank = 0; rank < count; rank++) {
            int k = x.worst(rank), now = x.place(k, 4);
            int above = error, previous = before;
            CHECK.holds("the rank " + rank, now < above || (now == above && k > previous));
            error = now;
            before = k;
            sum += k;
        }
        int all = sum;
        CHECK.due("each place has a rank", count * (count - 1) / 2, () -> all);
    }

    private static void fitting(int n, int sets) {
        CHECK.sentence("of all places the one whose error would be least with this tile, one way round or the other, of several the lowest");
        PipPortrait x = Looks.of(n, sets);
        int count = Looks.tiles(n, sets);
        for (int t : new int[] {0, n, count - 1}) {
            int tile = t;
            CHECK.due("fits(" + t + ") where all are the same", 0, () -> x.fits(tile));
        }
        int columns = n + 2, first = x.place(count - 1, 0), other = x.place(count - 1, 1);
        x.grey(first % columns, first / columns, 99);
        CHECK.due("the last place, turned", count - 1, () -> x.fits(n));
        x.grey(first % columns, first / columns, 0);
        x.grey(other % columns, other / columns, 99);
        CHECK.due("the last place, not turned", count - 1, () -> x.fits(n));
        x.hold(count - 1, true);
        CHECK.due("held or not", count - 1, () -> x.fits(n));
        CHECK.due("the double of no pips", 0, () -> x.fits(0));
    }

    // One place has the picture of the last tile but one, all others are black.
    private static void eachPlaceOnce(int n, int sets) {
        CHECK.sentence("Finds the place where a tile would fit best");
        int columns = n + 2, count = Looks.tiles(n, sets), tile = Looks.tiles(n, 1) - 2;
        for (int k = 0; k < count; k++) {
            PipPortrait x = Looks.of(n, sets);
            int place = k, first = x.place(k, 0), other = x.place(k, 1);
            x.grey(first % columns, first / columns, SHADES[n - 2][n]);
            x.grey(other % columns, other / columns, SHADES[n - 2][n - 1]);
            CHECK.due("fits(" + tile + ")", place, () -> x.fits(tile));
            if (sets == 2) CHECK.due("fits of the second set", place, () -> x.fits(2 * tile + 2));
        }
        CHECK.sentence("by errors, the greatest first, of several the lowest place");
        for (int k = 0; k < count; k++) {
            PipPortrait x = exact(n, sets);
            int place = k, first = x.place(k, 0), grey = x.square(first % columns, first / columns, 0);
            x.grey(first % columns, first / columns, grey == 0 ? 1 : grey - 1);
            CHECK.due("an error of 1 alone", 1, () -> x.about(5));
            CHECK.due("worst(0)", place, () -> x.worst(0));
            CHECK.due("worst(1)", place == 0 ? 1 : 0, () -> x.worst(1));
            CHECK.due("the last one", place == count - 1 ? count - 2 : count - 1, () -> x.worst(count - 1));
        }
    }

    private static void ranksOfTwo() {
        CHECK.sentence("by errors, the greatest first, of several the lowest place");
        for (int one = 0; one < 6; one++)
            for (int other = 0; other < 6; other++) {
                if (one == other) continue;
                PipPortrait x = exact(2, 1);
                int greater = one, less = other, both = Math.min(one, other);
                miss(x, greater, 2);
                miss(x, less, 1);
                CHECK.due("an error of 4", greater, () -> x.worst(0));
                CHECK.due("an error of 1", less, () -> x.worst(1));
                miss(x, less, 1);
                CHECK.due("two errors of 4", both, () -> x.worst(0));
                CHECK.due("two errors of 4", greater + less - both, () -> x.worst(1));
            }
    }

    // The first square of a place misses its half by so much more.
    private static void miss(PipPortrait x, int k, int by) {
        int first = x.place(k, 0), grey = x.square(first % 4, first / 4, 0);
        x.grey(first % 4, first / 4, x.square(first % 4, first / 4, 1) == 99 ? grey - by : grey + by);
    }

    // Each square has the grey of the half that lies on it.
    private static PipPortrait exact(int n, int sets) {
        PipPortrait x = Looks.of(n, sets);
        for (int column = 0; column < n + 2; column++)
            for (int row = 0; row < (n + 1) * sets; row++) x.grey(column, row, x.square(column, row, 1));
        return x;
    }

    private static void roundings() {
        CHECK.sentence("All divisions are rounded down");
        PipPortrait x = Looks.of(2, 1);
        x.fade(0, 1);
        int[] rising = {0, 0, 0, 0, 0, 1};
        int[] falling = {1, 0, 0, 0, 0, 0};
        for (int way = 0; way <= 5; way++) {
            int column = Math.min(3, way), row = way - Math.min(3, way);
            int up = rising[way], down = falling[way];
            CHECK.due("fade(0, 1), way " + way, up, () -> x.square(column, row, 0));
            CHECK.due("fade(1, 0), way " + way, down, () -> {
                PipPortrait y = Looks.of(2, 1);
                y.fade(1, 0);
                return y.square(column, row, 0);
            });
        }
    }

    // The place 0 has the tile 02 of n 2, whose halves have the greys 0 and 99.
    private static PipPortrait laidOn(int grey1, int grey2) {
        PipPortrait x = Looks.of(2, 1);
        x.grey(0, 0, grey1);
        x.grey(1, 0, grey2);
        x.turn(2);
        x.swap(2, 0);
        return x;
    }

    private static void laidOnTies() {
        CHECK.sentence("laid not turned if the error of its place is not greater by that than turned, otherwise turned");
        for (int grey = 0; grey <= 99; grey++) {
            int same = grey;
            CHECK.due("both squares " + grey, 0, () -> laidOn(same, same).place(0, 3));
        }
        CHECK.due("one more on the first square", 1, () -> laidOn(50, 49).place(0, 3));
        CHECK.due("one more on the other one", 0, () -> laidOn(49, 50).place(0, 3));
        CHECK.due("one more at the end", 1, () -> laidOn(1, 0).place(0, 3));
        CHECK.due("one more at the end", 0, () -> laidOn(98, 99).place(0, 3));
        CHECK.sentence("To turn a place (kind 0): its tile becomes turned, or not turned if it was");
        PipPortrait x = Looks.of(2, 1);
        x.turn(0);
        CHECK.due("a double too", 1, () -> x.place(0, 3));
        x.swap(0, 3);
        CHECK.due("a double is laid not turned", 0, () -> x.about(7));
        x.turn(5);
        x.flip(2, 1);
        CHECK.due("and by a flip", 0, () -> x.about(7));
        x.turn(5);
        x.lay();
        CHECK.due("and anew", 0, () -> x.about(7));
    }

    private static void layTies() {
        CHECK.sentence("of several the lowest tile");
        PipPortrait x = Looks.of(2, 2);
        x.swap(0, 6);
        x.swap(1, 11);
        x.lay();
        int[] due = {0, 6, 1, 7, 3, 9, 2, 8, 4, 10, 5, 11};
        for (int k = 0; k < 12; k++) {
            int place = k;
            CHECK.due("tile of " + k, due[k], () -> x.place(place, 2));
        }
        CHECK.sentence("the tile of those that are left (of these places) with which the error of the place is least");
        PipPortrait y = Looks.of(2, 1);
        y.hold(3, true);
        y.grey(0, 0, 49);
        y.grey(1, 0, 49);
        y.lay();
        CHECK.due("11 is held; of the others 01 misses least, by 49", 1, () -> y.place(0, 2));
        PipPortrait z = Looks.of(2, 1);
        z.fade(49, 49);
        z.hold(3, true);
        z.hold(1, true);
        z.lay();
        CHECK.due("11 and 01 are held: 12 misses by 50, all others by more", 4, () -> z.place(0, 2));
        CHECK.due("then 00, which misses less than 02", 0, () -> z.place(2, 2));
    }

    private static void layHeld() {
        CHECK.sentence("Lays the tiles of all places that are not held anew");
        PipPortrait one = Looks.of(2, 1);
        one.grey(2, 0, 99);
        for (int k = 0; k < 6; k++) if (k != 1) one.hold(k, true);
        CHECK.due("one is free: it keeps its tile and is laid the better way", 99 * 99 + 49 * 49 - 50 * 50, () -> one.lay());
        CHECK.due("its tile", 1, () -> one.place(1, 2));
        CHECK.due("turned", 1, () -> one.place(1, 3));
        PipPortrait two = Looks.of(2, 1);
        for (int k = 0; k < 6; k++) if (k != 0 && k != 5) two.hold(k, true);
        two.grey(0, 0, 99);
        two.grey(1, 0, 99);
        CHECK.due("two are free: they change tiles", 4 * 9801, () -> two.lay());
        CHECK.due("the first one", 5, () -> two.place(0, 2));
        CHECK.due("the last one", 0, () -> two.place(5, 2));
        CHECK.due("again", 0, () -> two.lay());
        two.turn(0);
        two.hold(0, true);
        CHECK.due("what is held stays turned", 0, () -> two.lay());
        CHECK.due("what is held stays turned", 1, () -> two.place(0, 3));
        CHECK.sentence("below 0 if it becomes more");
        // The place 0 takes 22, which misses 99 60 by 39; 02 misses the 99 99 of the place 1 by 99.
        PipPortrait worse = Looks.of(2, 1);
        worse.grey(0, 0, 99);
        worse.grey(1, 0, 60);
        worse.grey(2, 0, 99);
        worse.grey(3, 0, 99);
        worse.swap(0, 2);
        worse.swap(1, 5);
        for (int k = 2; k < 6; k++) worse.hold(k, true);
        CHECK.due("lay()", 60 * 60 - 39 * 39 - 99 * 99, () -> worse.lay());
        numbered("tiles", worse, 2, 0, 5, 2);
        CHECK.due("improve() takes it back", 39 * 39 + 99 * 99 - 60 * 60, () -> worse.improve(20));
    }

    private static void flipsAtTheEdge() {
        CHECK.sentence("a block is four squares of two columns and two rows side by side");
        PipPortrait x = Looks.of(2, 1);
        x.flip(2, 0);
        x.flip(0, 1);
        // Upright places in the last column, and in the first column one row below.
        CHECK.due("place in the last column", 7, () -> x.place(2, 1));
        CHECK.due("place in the first column", 4, () -> x.place(3, 0));
        CHECK.thrown("flip(3, 0)", Check.STATE, () -> x.flip(3, 0));
        CHECK.thrown("gain(20003)", Check.ARGUMENT, () -> x.gain(20003));
        CHECK.due("about(9)", 2, () -> x.about(9));
        CHECK.sentence("it can be flipped if it consists of two whole places");
        for (int row = 0; row < 3; row++)
            for (int column = 0; column < 4; column++) {
                int a = column, b = row;
                boolean can = (column == 2 && row == 0) || (column == 0 && row == 1);
                String told = Check.told(() -> fresh().flip(a, b));
                CHECK.same("flip(" + a + ", " + b + ")", Boolean.toString(can), Boolean.toString(!told.equals(Check.STATE)));
            }
    }

    private static PipPortrait fresh() {
        PipPortrait x = Looks.of(2, 1);
        x.flip(2, 0);
        x.flip(0, 1);
        return x;
    }

    // The numbers of some places, from the place "from" on.
    private static void numbered(String what, PipPortrait x, int kind, int from, int... due) {
        for (int i = 0; i < due.length; i++) {
            int place = from + i;
            CHECK.due(what + ": place(" + place + ", " + kind + ")", due[i], () -> x.place(place, kind));
        }
    }

    private static void flipsThatNumberAnew() {
        CHECK.sentence("Places are numbered anew by their first squares then, tiles and what is held stay with their places");
        PipPortrait x = Looks.of(6, 2);
        x.hold(1, true);
        x.hold(3, true);
        x.turn(2);
        x.flip(0, 0);
        numbered("the place 4 becomes the place 1", x, 2, 0, 0, 4, 1, 2, 3, 5);
        numbered("the place 4 becomes the place 1", x, 0, 0, 0, 1, 2, 4, 6, 10);
        numbered("the place 4 becomes the place 1", x, 1, 0, 8, 9, 3, 5, 7, 11);
        numbered("what is held", x, 5, 0, 0, 0, 1, 0, 1, 0);
        numbered("what is turned", x, 3, 0, 0, 0, 0, 1, 0, 0);
        x.flip(0, 0);
        numbered("and back", x, 2, 0, 0, 1, 2, 3, 4, 5);
        numbered("and back", x, 1, 0, 1, 3, 5, 7, 9, 11);
        numbered("and back", x, 5, 0, 0, 1, 0, 1, 0, 0);
        x.flip(6, 12);
        numbered("the last place becomes the place 52", x, 2, 50, 50, 51, 55, 52, 53, 54);
        numbered("the last place becomes the place 52", x, 0, 50, 100, 102, 103, 104, 106, 108);
        numbered("the last place becomes the place 52", x, 1, 50, 101, 110, 111, 105, 107, 109);
        PipPortrait y = Looks.of(5, 2);
        y.hold(38, true);
        y.turn(41);
        y.flip(0, 10);
        numbered("the place 36 becomes the last one", y, 2, 34, 34, 35, 37, 38, 39, 40, 41, 36);
        numbered("the place 36 becomes the last one", y, 0, 34, 62, 70, 72, 73, 74, 75, 76, 77);
        numbered("the place 36 becomes the last one", y, 1, 34, 69, 71, 79, 80, 81, 82, 83, 78);
        numbered("what is held", y, 5, 34, 0, 0, 0, 1, 0, 0, 0, 0);
        numbered("what is turned", y, 3, 34, 0, 0, 0, 0, 0, 0, 1, 0);
        y.flip(0, 10);
        numbered("and back", y, 2, 34, 34, 35, 36, 37, 38, 39, 40, 41);
        numbered("and back", y, 0, 34, 62, 70, 71, 72, 73, 74, 75, 76);
    }

    private static void bestOfNone() {
        CHECK.sentence("NONE for 0 if none is possible and free; 0 for 1 then");
        PipPortrait x = Looks.of(2, 1);
        x.fade(99, 0);
        for (int k = 0; k < 5; k++) x.hold(k, true);
        CHECK.due("one is free: its turn", 5, () -> x.best(0));
        CHECK.due("a double gains 0 by it", 0, () -> x.best(1));
        x.hold(5, true);
        CHECK.due("none", PipPortrait.NONE, () -> x.best(0));
        CHECK.due("none", 0, () -> x.best(1));
        x.hold(5, false);
        x.hold(1, false);
        x.hold(5, true);
        x.turn(1);
        CHECK.due("the only one may lose", 1, () -> x.best(0));
        CHECK.due("below 0", x.gain(1), () -> x.best(1));
        CHECK.due("below 0", 1, () -> x.best(1) < 0 ? 1 : 0);
    }

    private static void holdAllBut(PipPortrait x, int... free) {
        for (int k = 0; k < x.about(4); k++) {
            boolean held = true;
            for (int one : free) held &= one != k;
            if (held) x.hold(k, true);
        }
    }

    private static void bestOfSeveral() {
        CHECK.sentence("with the greatest gain, of several the one with the least number");
        PipPortrait black = Looks.of(2, 1);
        for (int k = 0; k < 6; k++) {
            int least = k;
            CHECK.due("all gain 0: the first turn", least, () -> black.best(0));
            black.hold(k, true);
        }
        // The turn of 01 gains as much as the swap with the other 01, which lays both the better way.
        PipPortrait turn = Looks.of(2, 2);
        turn.grey(3, 0, 49);
        turn.turn(1);
        holdAllBut(turn, 1, 7);
        CHECK.due("a turn before a swap", 1, () -> turn.best(0));
        CHECK.due("its gain", 4802, () -> turn.best(1));
        CHECK.due("that of the swap", 4802, () -> turn.gain(10107));
        // Two 01 above one another, on 0 49 and on 49 0, both laid the wrong way: swapped or upright they fit.
        PipPortrait swap = Looks.of(2, 2);
        swap.swap(0, 1);
        swap.swap(2, 7);
        swap.grey(1, 0, 49);
        swap.grey(0, 1, 49);
        swap.turn(0);
        holdAllBut(swap, 0, 2);
        CHECK.due("a swap before a flip", 10002, () -> swap.best(0));
        CHECK.due("its gain", 9604, () -> swap.best(1));
        CHECK.due("that of the flip", 9604, () -> swap.gain(20000));
        // Twice 22 above 00, each on a 99 and a 0.
        PipPortrait flip = Looks.of(2, 2);
        for (int column = 0; column < 4; column += 2)
            for (int row = 0; row < 2; row++) flip.grey(column, row, 99);
        flip.swap(0, 5);
        flip.swap(2, 5);
        flip.swap(1, 11);
        flip.swap(3, 6);
        holdAllBut(flip, 0, 1, 2, 3);
        CHECK.due("the flip of the lower square", 20000, () -> flip.best(0));
        CHECK.due("its gain", 2 * 9801, () -> flip.best(1));
        flip.hold(2, true);
        CHECK.due("the flip of the other one", 20002, () -> flip.best(0));
        CHECK.due("its gain", 2 * 9801, () -> flip.best(1));
    }

    private static void bestOfNoneBehindOthers() {
        CHECK.sentence("NONE for 0 if none is possible and free; 0 for 1 then");
        PipPortrait x = Looks.of(2, 1);
        x.fade(99, 0);
        CHECK.due("there is one", 1, () -> x.best(1) > 0 ? 1 : 0);
        for (int k = 0; k < 6; k++) x.hold(k, true);
        CHECK.due("none", 0, () -> x.best(1));
        CHECK.due("none", PipPortrait.NONE, () -> x.best(0));
        CHECK.due("none is done", 0, () -> x.improve(20));
        CHECK.due("none is done", 0, () -> x.about(10));
        x.hold(1, false);
        CHECK.due("there is one", 1, () -> x.best(0));
        x.hold(1, true);
        CHECK.due("none", PipPortrait.NONE, () -> x.best(0));
        CHECK.due("none", 0, () -> x.best(1));
    }

    // Does the change of this number by the call that is made for it.
    private static int byItsNumber(PipPortrait x, int number) {
        int rest = number % 10000;
        if (number < 10000) return x.turn(rest);
        return number < 20000 ? x.swap(rest / 100, rest % 100) : x.flip(rest % x.about(2), rest / x.about(2));
    }

    private static void improveDoesBestChanges() {
        CHECK.sentence("Does best changes, one after the other");
        int[] kinds = new int[3];
        for (int n = 2; n <= 6; n++)
            for (int sets = 1; sets <= 2; sets++)
                for (int start = 0; start < 6; start++) {
                    PipPortrait x = spoilt(n, sets, start), y = spoilt(n, sets, start);
                    for (int i = 0; i < 20; i++) {
                        int number = x.best(0), gain = x.best(1);
                        CHECK.due("gain(best(0)) is best(1)", gain, () -> x.gain(number));
                        if (gain <= 0) {
                            CHECK.due("improve() where nothing gains", 0, () -> y.improve(20));
                            break;
                        }
                        kinds[number / 10000]++;
                        CHECK.due("improve(1)", gain, () -> y.improve(1));
                        CHECK.due("the best change", gain, () -> byItsNumber(x, number));
                    }
                    CHECK.due("the same error", x.about(5), () -> y.about(5));
                    // A look at a larger one would be more than the 512 calls of an object.
                    if (Looks.tiles(n, sets) <= 30) CHECK.same("both are the same then", Looks.state(x), Looks.state(y));
                }
        for (int kind = 0; kind < 3; kind++) CHECK.holds("changes of the kind " + kind + " were done", kinds[kind] > 0);
    }

    // Turned and flipped for no good, with some places held.
    private static PipPortrait spoilt(int n, int sets, int start) {
        PipPortrait x = Looks.of(n, sets);
        x.fade(20 * start % 100, 99 - 15 * start);
        x.lay();
        for (int k = 0; k < 6; k++) x.turn(k);
        int columns = n + 2, rows = (n + 1) * sets;
        for (int column = start % 2; column < columns; column += 2) {
            int a = column;
            for (int row = start / 3; row < rows; row += 2) {
                int b = row;
                Check.told(() -> x.flip(a, b));
            }
        }
        for (int k = start; k < Looks.tiles(n, sets); k += 5) x.hold(k, true);
        return x;
    }

    private static void improveStops() {
        CHECK.sentence("as long as the gain of the best one is above 0");
        PipPortrait x = Looks.of(2, 1);
        CHECK.due("the best gain is 0", 0, () -> x.best(1));
        CHECK.due("improve(20)", 0, () -> x.improve(20));
        CHECK.due("no change is done", 0, () -> x.about(10));
        CHECK.due("ifImproved(20, 1)", 0, () -> x.ifImproved(20, 1));
        // The tile 01 of n 6 has the greys 0 and 16; all others are held.
        PipPortrait y = Looks.of(6, 1);
        for (int k = 0; k < 28; k++) if (k != 1) y.hold(k, true);
        y.grey(2, 0, 8);
        y.grey(3, 0, 8);
        CHECK.due("a tie gains 0", 0, () -> y.best(1));
        CHECK.due("and is not done", 0, () -> y.improve(20));
        y.grey(2, 0, 9);
        CHECK.due("the least gain there", 32, () -> y.ifImproved(1, 0));
        CHECK.due("one change", 1, () -> y.ifImproved(20, 1));
        CHECK.due("is done", 32, () -> y.improve(20));
        CHECK.due("turned", 1, () -> y.place(1, 3));
        CHECK.due("no more", 0, () -> y.improve(20));
    }

    private static void improveCounts() {
        CHECK.sentence("1 to 20: at most so many");
        PipPortrait x = Looks.of(6, 2);
        x.fade(99, 0);
        PipPortrait steps = Looks.of(6, 2);
        steps.fade(99, 0);
        int sum = 0;
        for (int most = 1; most <= 20; most++) {
            int best = steps.best(1);
            CHECK.due("improve(1) is the best gain", best, () -> steps.improve(1));
            sum += best;
            int all = sum, many = most;
            CHECK.due("ifImproved(" + most + ", 0)", all, () -> x.ifImproved(many, 0));
            CHECK.due("ifImproved(" + most + ", 1)", many, () -> x.ifImproved(many, 1));
            CHECK.due("improve(" + most + ")", all, () -> x.improve(many));
            CHECK.due("about(10)", many, () -> x.about(10));
            x.undo();
        }
        CHECK.due("nothing is changed", 0, () -> x.about(10));
        CHECK.sentence("how many changes it would do");
        x.improve(7);
        CHECK.due("behind others", 5, () -> x.ifImproved(5, 1));
        CHECK.due("behind others", 20, () -> x.ifImproved(20, 1));
        for (int k = 0; k < 56; k++) x.hold(k, true);
        CHECK.due("none, behind others", 0, () -> x.ifImproved(20, 1));
    }

    private static void fitsTies() {
        CHECK.sentence("Returns of all places the one whose error would be least with this tile");
        PipPortrait x = Looks.of(2, 1);
        x.grey(0, 1, 99);
        x.grey(1, 1, 99);
        x.grey(2, 2, 99);
        x.grey(3, 2, 99);
        CHECK.due("of several the lowest", 2, () -> x.fits(5));
        CHECK.due("the place where it lies is one of them", 0, () -> x.fits(0));
        x.grey(0, 1, 98);
        CHECK.due("one less", 5, () -> x.fits(5));
        x.grey(2, 2, 97);
        CHECK.due("two less", 2, () -> x.fits(5));
    }

    private static void fromLargeToSmall() {
        CHECK.sentence("Begins anew: another n, other sets, all greys 0, places and tiles as at first, nothing is held");
        PipPortrait x = Looks.of(6, 2);
        x.fade(99, 1);
        for (int k = 0; k < 56; k++) {
            x.turn(k);
            x.hold(k, true);
        }
        int error = x.about(5);
        CHECK.due("all are turned", 56, () -> x.about(7));
        CHECK.due("all are held", 56, () -> x.about(8));
        x.begin(2, 1);
        CHECK.same("nothing is left of it", Looks.state(Looks.of(2, 1)), Looks.state(x));
        x.undo();
        int[] due = {6, 2, 8, 14, 56, error, 56, 56, 56, 52, 56};
        for (int what = 0; what <= 10; what++) {
            int number = what;
            CHECK.due("it is back: about(" + what + ")", due[what], () -> x.about(number));
        }
        CHECK.due("it is back: the last place", 55, () -> x.place(55, 2));
        CHECK.due("it is back: the last grey", 1, () -> x.square(7, 13, 0));
        PipPortrait y = Looks.of(2, 1);
        y.fade(99, 99);
        y.hold(5, true);
        y.begin(6, 2);
        CHECK.same("nothing is left of it", Looks.state(Looks.of(6, 2)), Looks.state(y));
    }
}
