import java.math.BigInteger;

/** Every command of six digits that there is, the ends of scripts, and numbers that wrap around. */
public final class ScriptsTest {
    private static final Check CHECK = new Check();
    // What places of the portrait are: looked up once, since looks are calls too.
    private static final int[] TILES = new int[6];
    private static final int[] TURNED = new int[6];
    private static final boolean[] HELD = new boolean[6];
    private static final int[][] PIPS = new int[4][3];

    public static void main(String[] args) {
        lookUp();
        everyGroup();
        errorsOfFiveDigits();
        numbersOfDigits();
        theFirstThatFails();
        copies();
        largest();
        seedsThatWrapAround();
        everyTurn();
        simulateIsACopy();
        CHECK.end("ScriptsTest");
    }

    private static void lookUp() {
        PipPortrait x = Looks.busy();
        for (int k = 0; k < 6; k++) {
            TILES[k] = x.place(k, 2);
            TURNED[k] = x.place(k, 3);
            HELD[k] = x.place(k, 5) == 1;
        }
        for (int column = 0; column < 4; column++)
            for (int row = 0; row < 3; row++) PIPS[column][row] = x.square(column, row, 4);
        CHECK.sentence("the portrait that the scripts are run on");
        CHECK.holds("the places 0 and 4 are held", HELD[0] && HELD[4] && !HELD[1] && !HELD[5]);
        CHECK.holds("some are turned, some are not", x.about(7) > 0 && x.about(7) < 6);
    }

    private static void everyGroup() {
        CHECK.sentence("commands with columns, rows, places or tiles that do not exist fail, and so does any other group");
        int error = Looks.busy().about(5);
        PipPortrait x = null;
        for (int group = 0; group < 1000000; group++) {
            if (group % 300 == 0) x = Looks.busy();
            int got = x.runScript(1, group);
            int want = succeeds(group, error) ? -1 : 0;
            if (got != want) CHECK.same("runScript(1, " + group + ")", "" + want, "" + got);
        }
        CHECK.holds("all of them were run", x != null);
    }

    private static int digit(int group, int place) {
        String all = Integer.toString(1000000 + group);
        return all.charAt(place) - '0';
    }

    // d1 to d6 are the digits of the document.
    private static boolean succeeds(int group, int error) {
        int d2 = digit(group, 2), d3 = digit(group, 3), d4 = digit(group, 4), d5 = digit(group, 5), d6 = digit(group, 6);
        int one = 10 * d2 + d3, other = 10 * d4 + d5, row = 10 * d3 + d4, end = 10 * d5 + d6;
        boolean square = d2 < 4 && row < 3, place = one < 6;
        switch (digit(group, 1)) {
            case 1: return square;
            case 2: return place && !HELD[one] && d4 == 0 && d5 == 0 && d6 == 0;
            case 3: return place && other < 6 && one != other && !HELD[one] && !HELD[other] && d6 == 0;
            case 4: return d2 == 2 && row == 0 && d5 == 0 && d6 == 0;
            case 5: return d2 == 0 && d3 == 0 && d4 == 0 && end >= 1 && end <= 20;
            case 6: return place && other < 6 && d6 == 0 && TILES[one] == other;
            case 7: return place && d4 == 0 && d5 == 0 && d6 < 2 && TURNED[one] == d6;
            case 8: return square && d6 == 0 && PIPS[d2][row] == d5;
            case 9: return error <= group - 900000;
            default: return false;
        }
    }

    // A portrait with this error: each half lies on its own grey but for ten or more that miss it.
    private static PipPortrait missing(int... by) {
        PipPortrait x = Looks.of(6, 2);
        int used = 0;
        for (int column = 0; column < 8; column++)
            for (int row = 0; row < 14; row++) {
                int shade = x.square(column, row, 1);
                int miss = used < by.length && (shade == 0 || shade == 99) ? by[used++] : 0;
                if (shade + miss != 0) x.grey(column, row, shade == 99 ? shade - miss : shade + miss);
            }
        return x;
    }

    private static void errorsOfFiveDigits() {
        CHECK.sentence("9 n n n n n: succeeds if the error of the portrait is at most nnnnn");
        PipPortrait most = missing(99, 99, 99, 99, 99, 99, 99, 99, 99, 99, 44, 7, 2);
        CHECK.due("its error", 99999, () -> most.about(5));
        CHECK.due("at most 99999", -1, () -> most.runScript(1, 999999));
        CHECK.due("at most 99998", 0, () -> most.runScript(1, 999998));
        PipPortrait more = missing(99, 99, 99, 99, 99, 99, 99, 99, 99, 99, 44, 7, 2, 1);
        CHECK.due("its error", 100000, () -> more.about(5));
        CHECK.due("at most 99999", 0, () -> more.runScript(1, 999999));
        CHECK.due("at most 0", 0, () -> more.runScript(1, 900000));
        PipPortrait none = missing();
        CHECK.due("its error", 0, () -> none.about(5));
        CHECK.due("at most 0", -1, () -> none.runScript(1, 900000));
        PipPortrait one = missing(1);
        CHECK.due("at most 0", 0, () -> one.runScript(1, 900000));
        CHECK.due("at most 1", -1, () -> one.runScript(1, 900001));
    }

    private static void numbersOfDigits() {
        CHECK.sentence("a number of at most 6 * n digits (0 or more)");
        PipPortrait x = new PipPortrait();
        long[] most = {999999L, 999999999999L, 999999999999999999L};
        for (int n = 1; n <= 3; n++) {
            int count = n;
            CHECK.due("0 of " + n, 0, () -> x.runScript(count, 0));
            CHECK.due("the greatest of " + n, -1, () -> x.runScript(count, most[count - 1]));
            CHECK.thrown("one more of " + n, Check.ARGUMENT, () -> x.runScript(count, most[count - 1] + 1));
            CHECK.thrown("-1 of " + n, Check.ARGUMENT, () -> x.runScript(count, -1));
        }
        CHECK.sentence("with zeros before it, if it has fewer digits");
        CHECK.due("1 of 1", 0, () -> x.runScript(1, 1));
        CHECK.due("six digits of 2", 0, () -> x.runScript(2, 999999));
        CHECK.due("seven digits of 2", 0, () -> x.runScript(2, 9999999));
        CHECK.due("twelve digits of 3", 0, () -> x.runScript(3, 999999999999L));
        CHECK.due("seven digits of 3", 0, () -> x.runScript(3, 1999999L));
    }

    private static void theFirstThatFails() {
        CHECK.sentence("Returns the index, from 0, of the first command that fails; NONE if all succeed");
        PipPortrait x = new PipPortrait();
        long good = 999999, bad = 0;
        for (int pattern = 0; pattern < 14; pattern++) {
            int n = pattern < 2 ? 1 : pattern < 6 ? 2 : 3;
            int bits = pattern < 2 ? pattern : pattern < 6 ? pattern - 2 : pattern - 6;
            long script = 0;
            int first = -1;
            for (int i = 0; i < n; i++) {
                boolean fails = (bits >> i & 1) == 1;
                script = script * 1000000 + (fails ? bad : good);
                if (fails && first < 0) first = i;
            }
            long whole = script;
            CHECK.due("runScript(" + n + ", " + script + ")", first, () -> x.runScript(n, whole));
        }
    }

    private static void copies() {
        CHECK.sentence("Runs a script on a copy of the state");
        PipPortrait x = new PipPortrait();
        CHECK.due("a turn is seen by what follows", -1, () -> x.runScript(2, 200000700001L));
        CHECK.due("but not by the next script", 0, () -> x.runScript(1, 700001));
        CHECK.due("twice turned", -1, () -> x.runScript(3, 200000200000700000L));
        CHECK.due("a swap", -1, () -> x.runScript(3, 300090600090609000L));
        CHECK.due("not by the next script", -1, () -> x.runScript(2, 600000609090L));
        CHECK.due("a flip: the next place is numbered anew", -1, () -> x.runScript(2, 400000601020L));
        CHECK.due("a grey", -1, () -> x.runScript(2, 100099900000L + 76230 + 99 * 99));
        CHECK.due("a grey", 1, () -> x.runScript(2, 100099900000L + 76230 + 99 * 99 - 1));
        PipPortrait faded = faded(2);
        for (int most = 1; most <= 20; most++) {
            long improved = 900000L + faded.about(5) - faded.ifImproved(most, 0);
            long script = (500000L + most) * 1000000;
            CHECK.due("improve(" + most + ")", -1, () -> faded.runScript(2, script + improved));
            CHECK.due("improve(" + most + ")", 1, () -> faded.runScript(2, script + improved - 1));
        }
        x.turn(0);
        CHECK.due("it begins with the present state", -1, () -> x.runScript(1, 700001));
        x.undo();
        CHECK.due("it begins with the present state", -1, () -> x.runScript(1, 700000));
        x.begin(6, 2);
        CHECK.due("of another size", -1, () -> x.runScript(2, 255000755001L));
        x.begin(2, 1);
        CHECK.due("of another size", 0, () -> x.runScript(1, 206000));
        x.hold(0, true);
        CHECK.due("held there too", 0, () -> x.runScript(1, 200000));
    }

    private static void largest() {
        CHECK.sentence("All are decimal numbers");
        PipPortrait x = Looks.of(6, 2);
        long[] good = {171300, 171399, 255000, 300550, 355000, 354550, 461200, 400000, 655550, 755000, 871360, 800000};
        long[] bad = {171400, 181300, 256000, 300560, 356000, 355550, 461300, 471200, 655560, 656550, 655540, 756000, 755001, 871350, 871370,
            881360, 871460};
        for (long group : good) CHECK.due("runScript(1, " + group + ")", -1, () -> x.runScript(1, group));
        for (long group : bad) CHECK.due("runScript(1, " + group + ")", 0, () -> x.runScript(1, group));
    }

    // The turns, one by one, through the face; the long that wraps around is worked out without any overflow.
    private static int stepped(PipPortrait x, long seed, int m) {
        BigInteger room = BigInteger.ONE.shiftLeft(64);
        BigInteger s = BigInteger.valueOf(seed);
        for (int i = 0; i < m; i++) {
            s = s.multiply(new BigInteger("6364136223846793005")).add(new BigInteger("1442695040888963407")).mod(room);
            turn(x, s.shiftRight(33).intValueExact());
        }
        return x.about(5);
    }

    private static void turn(PipPortrait x, int r) {
        int q = r / 8;
        switch (r % 8) {
            case 0: case 1: Check.told(() -> x.grey(q % 8, q / 8 % 14, q / 128 % 100)); break;
            case 2: Check.told(() -> x.turn(q % 56)); break;
            case 3: case 4: Check.told(() -> x.swap(q % 56, q / 64 % 56)); break;
            case 5: Check.told(() -> x.flip(q % 8, q / 8 % 14)); break;
            case 6: Check.told(() -> q % 4 == 0 ? x.fade(q % 100, q / 128 % 100) : x.lay()); break;
            default: Check.told(() -> x.improve(1 + q % 4)); break;
        }
    }

    private static void seedsThatWrapAround() {
        CHECK.sentence("Each turn first replaces s by s * 6364136223846793005L + 1442695040888963407L (with long overflow)");
        long[] seeds = {0, 1, -1, 2, -2, Long.MAX_VALUE, Long.MIN_VALUE, Long.MAX_VALUE - 1, Long.MIN_VALUE + 1, 1L << 32, 1L << 33, -(1L << 33)};
        for (long seed : seeds)
            for (int m : new int[] {1, 2, 29, 30})
                for (int n = 2; n <= 6; n += 2) {
                    int size = n;
                    int due = stepped(faded(n), seed, m);
                    CHECK.due("simulate(" + seed + ", " + m + ") of n " + n, due, () -> faded(size).simulate(seed, m));
                }
    }

    private static PipPortrait faded(int n) {
        PipPortrait x = Looks.of(n, 2);
        x.fade(95, 7);
        x.hold(2, true);
        return x;
    }

    // The seed whose first turn has this r: the step backwards, by the factor's inverse.
    private static long seedFor(long r) {
        BigInteger room = BigInteger.ONE.shiftLeft(64);
        BigInteger inverse = new BigInteger("6364136223846793005").modInverse(room);
        return BigInteger.valueOf(r).shiftLeft(33).subtract(new BigInteger("1442695040888963407")).multiply(inverse).longValue();
    }

    private static void everyTurn() {
        CHECK.sentence("r = (int) (s >>> 33) is computed. q is r / 8. By r % 8");
        for (int r = 0; r < 8 * 1000; r++) turnOf(r, 2 + r / 8 % 5);
        for (int r = Integer.MAX_VALUE; r > Integer.MAX_VALUE - 8 * 40; r--) turnOf(r, 6);
        CHECK.sentence("grey(q % 8, q / 8 % 14, q / 128 % 100)");
        for (int q : new int[] {0, 7, 8 * 13, 8 * 13 + 7, 128 * 99, 128 * 99 + 8 * 13 + 7, 128 * 100, 8 * 14}) turnOf(8 * q, 6);
        CHECK.sentence("swap(q % 56, q / 64 % 56)");
        for (int q : new int[] {55, 64 * 55, 64 * 56, 56, 57, 64, 64 * 55 + 4, 64 * 56 + 1}) turnOf(8 * q + 3, 6);
        CHECK.sentence("fade(q % 100, q / 128 % 100), if q % 4 is 0, otherwise lay()");
        for (int q : new int[] {0, 96, 99, 100, 128 * 99, 128 * 100, 128 * 25, 128 * 99 + 1, 128 * 99 + 2, 128 * 99 + 3}) turnOf(8 * q + 6, 6);
    }

    private static void turnOf(int r, int n) {
        long seed = seedFor(r);
        PipPortrait x = faded(n);
        turn(x, r);
        CHECK.due("a turn by r " + r + " of n " + n, x.about(5), () -> faded(n).simulate(seed, 1));
    }

    private static void simulateIsACopy() {
        CHECK.sentence("Simulates m turns on a copy of the state");
        PipPortrait x = faded(3);
        int first = x.simulate(5, 30);
        x.simulate(6, 30);
        x.runScript(1, 120099);
        x.ifImproved(20, 0);
        CHECK.due("again, behind others", first, () -> x.simulate(5, 30));
        int script = x.runScript(2, 120099900000L + Math.min(99999, x.about(5)));
        x.simulate(7, 30);
        CHECK.due("a script behind it", script, () -> x.runScript(2, 120099900000L + Math.min(99999, x.about(5))));
        int more = x.ifImproved(20, 0);
        x.simulate(8, 30);
        CHECK.due("ifImproved behind it", more, () -> x.ifImproved(20, 0));
    }
}
