import java.util.Arrays;

/**
 * Portraits that are laid of dominoes. This class is the face: it looks at the arguments, throws
 * what the document wants thrown, and remembers states. What a portrait is and how it changes
 * stands in Board.
 */
public final class PipPortrait {
    public static final int NONE = -1;

    private static final int LEAST_N = 2;
    private static final int MOST_N = 6;
    private static final int MOST_SETS = 2;
    private static final int MOST_TILES = 56;
    private static final int MOST_SQUARES = 112;
    private static final int MOST_GREY = 99;
    private static final int MOST_SIGN = 255;
    private static final int MOST_TEXT = 120;
    private static final int HEADER = 3;
    private static final int MOST_REMEMBERED = 14;
    private static final int SLOTS = 2;
    private static final int MOST_BEST_CHANGES = 20;
    private static final int MOST_COMMANDS = 3;
    private static final int BEHIND_GROUP = 1000000;
    private static final int MOST_TURNS = 30;

    private static final int KIND = 10000;
    private static final int SWAPS = 10000;
    private static final int FLIPS = 20000;
    private static final int BEHIND_FLIPS = 30000;

    private final Board board;
    // What would be is tried out here, so that the portrait itself stays as it is.
    private final Board trial;
    private final Memory memory;
    private final Slots slots;
    private final Text text;

    public PipPortrait() {
        board = new Board();
        trial = new Board();
        memory = new Memory();
        slots = new Slots();
        text = new Text();
        board.start(3, 1);
    }

    // ---- text

    public int append(int c) throws IllegalArgumentException, IllegalStateException {
        if (c < 0 || c > MOST_SIGN) {
            throw new IllegalArgumentException("no such character");
        }
        if (text.isFull()) {
            throw new IllegalStateException("the text is full");
        }
        text.add(c);
        return text.length;
    }

    public int clearText() {
        int previous = text.length;
        text.length = 0;
        return previous;
    }

    public int errorPosition() {
        return text.firstError();
    }

    public int load() throws IllegalStateException {
        if (text.firstError() != NONE) {
            throw new IllegalStateException("the text is not a portrait");
        }
        memory.forget();
        slots.clear();
        board.start(text.digitAt(1), text.digitAt(2));
        int leftOut = 0;
        int from = HEADER;
        for (int i = 0; i < MOST_TEXT && from < text.length; i++) {
            leftOut += Commands.doInText(board, text, from) ? 0 : 1;
            from += Text.formOf(text.signAt(from)).length();
        }
        return leftOut;
    }

    // ---- what there is

    public int about(int what) throws IllegalArgumentException {
        switch (what) {
            case 0: return board.now.n;
            case 1: return board.now.sets;
            case 2: return board.columns;
            case 3: return board.rows;
            case 4: return board.tiles;
            case 5: return board.errorOfAll();
            case 6: return board.placesAlongRows();
            case 7: return board.marked(board.now.turned);
            case 8: return board.marked(board.now.held);
            case 9: return board.blocks();
            case 10: return board.now.changes;
            default: throw new IllegalArgumentException("no such number of a portrait");
        }
    }

    public int square(int x, int y, int what) throws IndexOutOfBoundsException, IllegalArgumentException {
        if (!board.hasSquare(x, y)) {
            throw new IndexOutOfBoundsException("no such square");
        }
        int square = board.squareAt(x, y);
        switch (what) {
            case 0: return at(board.now.greys, square);
            case 1: return board.shade(board.pipsOn(square));
            case 2: return Board.miss(at(board.now.greys, square), board.shade(board.pipsOn(square)));
            case 3: return at(board.placeOn, square);
            case 4: return board.pipsOn(square);
            default: throw new IllegalArgumentException("no such number of a square");
        }
    }

    public int place(int k, int what) throws IndexOutOfBoundsException, IllegalArgumentException {
        if (!board.hasPlace(k)) {
            throw new IndexOutOfBoundsException("no such place");
        }
        switch (what) {
            case 0: return at(board.now.first, k);
            case 1: return at(board.now.other, k);
            case 2: return at(board.now.laid, k);
            case 3: return at(board.now.turned, k);
            case 4: return board.errorAt(k);
            case 5: return at(board.now.held, k);
            case 6: return board.isAlongRow(k) ? 1 : 0;
            default: throw new IllegalArgumentException("no such number of a place");
        }
    }

    public int tile(int t, int what) throws IndexOutOfBoundsException, IllegalArgumentException {
        if (!board.hasTile(t)) {
            throw new IndexOutOfBoundsException("no such tile");
        }
        switch (what) {
            case 0: return at(board.low, t);
            case 1: return at(board.high, t);
            case 2: return board.placeWith(t);
            default: throw new IllegalArgumentException("no such number of a tile");
        }
    }

    // ---- actions

    public int begin(int n, int sets) throws IllegalArgumentException {
        if (n < LEAST_N || n > MOST_N || sets < 1 || sets > MOST_SETS) {
            throw new IllegalArgumentException("no such sets");
        }
        memory.remember(board.now);
        board.start(n, sets);
        return board.tiles;
    }

    public int grey(int x, int y, int grey) throws IndexOutOfBoundsException, IllegalArgumentException {
        if (!board.hasSquare(x, y)) {
            throw new IndexOutOfBoundsException("no such square");
        }
        if (!isGrey(grey)) {
            throw new IllegalArgumentException("no such grey");
        }
        memory.remember(board.now);
        int square = board.squareAt(x, y);
        int previous = at(board.now.greys, square);
        put(board.now.greys, square, grey);
        return previous;
    }

    public int fade(int from, int to) throws IllegalArgumentException {
        if (!isGrey(from) || !isGrey(to)) {
            throw new IllegalArgumentException("no such grey");
        }
        memory.remember(board.now);
        board.fadeAll(from, to);
        return board.errorOfAll();
    }

    public int turn(int k) throws IndexOutOfBoundsException, IllegalStateException {
        if (!board.hasPlace(k)) {
            throw new IndexOutOfBoundsException("no such place");
        }
        if (board.isHeld(k)) {
            throw new IllegalStateException("the place is held");
        }
        memory.remember(board.now);
        int before = board.errorOfAll();
        board.turnPlace(k);
        return before - board.errorOfAll();
    }

    public int swap(int one, int other)
            throws IndexOutOfBoundsException, IllegalArgumentException, IllegalStateException {
        if (!board.hasPlace(one) || !board.hasPlace(other)) {
            throw new IndexOutOfBoundsException("no such place");
        }
        if (one == other) {
            throw new IllegalArgumentException("both places are the same");
        }
        if (board.isHeld(one) || board.isHeld(other)) {
            throw new IllegalStateException("a place is held");
        }
        memory.remember(board.now);
        int before = board.errorOfAll();
        board.swapPlaces(one, other);
        return before - board.errorOfAll();
    }

    public int flip(int x, int y) throws IndexOutOfBoundsException, IllegalStateException {
        if (!board.hasSquare(x, y)) {
            throw new IndexOutOfBoundsException("no such square");
        }
        int block = board.blockAt(board.squareAt(x, y));
        if (block == NONE || !board.isFreeBlock(block)) {
            throw new IllegalStateException("no block there that can be flipped and is free");
        }
        memory.remember(board.now);
        int before = board.errorOfAll();
        board.flipBlock(block);
        return before - board.errorOfAll();
    }

    public int hold(int k, boolean hold) throws IndexOutOfBoundsException {
        if (!board.hasPlace(k)) {
            throw new IndexOutOfBoundsException("no such place");
        }
        memory.remember(board.now);
        put(board.now.held, k, hold ? 1 : 0);
        return board.marked(board.now.held);
    }

    public int lay() {
        memory.remember(board.now);
        int before = board.errorOfAll();
        board.layAnew();
        return before - board.errorOfAll();
    }

    public int improve(int most) throws IllegalArgumentException {
        if (!isCountOfChanges(most)) {
            throw new IllegalArgumentException("no such number of changes");
        }
        memory.remember(board.now);
        int before = board.errorOfAll();
        board.doBestChanges(most);
        return before - board.errorOfAll();
    }

    public int undo() throws IllegalStateException {
        if (memory.isEmpty()) {
            throw new IllegalStateException("no state is remembered");
        }
        board.takeFrom(memory.takeLast());
        return memory.kept;
    }

    // ---- what would be

    public int gain(int change) throws IllegalArgumentException {
        if (!board.isPossible(change)) {
            throw new IllegalArgumentException("no such change");
        }
        return board.gainOf(change);
    }

    public int best(int what) throws IllegalArgumentException {
        if (what != 0 && what != 1) {
            throw new IllegalArgumentException("no such number of the best change");
        }
        board.search.findIn(board);
        return what == 0 ? board.search.change : board.search.gained;
    }

    public int ifImproved(int most, int what) throws IllegalArgumentException {
        if (!isCountOfChanges(most) || (what != 0 && what != 1)) {
            throw new IllegalArgumentException("no such number of best changes");
        }
        trial.takeFrom(board.now);
        trial.doBestChanges(most);
        return what == 0 ? board.errorOfAll() - trial.errorOfAll() : trial.now.changes - board.now.changes;
    }

    public int least() {
        return board.leastOfAll();
    }

    public int worst(int rank) throws IndexOutOfBoundsException {
        if (!board.hasPlace(rank)) {
            throw new IndexOutOfBoundsException("no place of this rank");
        }
        return board.placeOfRank(rank);
    }

    public int fits(int t) throws IndexOutOfBoundsException {
        if (!board.hasTile(t)) {
            throw new IndexOutOfBoundsException("no such tile");
        }
        return board.bestPlaceFor(t);
    }

    // ---- scripts, simulations

    public int runScript(int n, long script) throws IllegalArgumentException {
        if (n < 1 || n > MOST_COMMANDS || script < 0 || script >= behindGroups(n)) {
            throw new IllegalArgumentException("no such script");
        }
        trial.takeFrom(board.now);
        for (int i = 0; i < n; i++) {
            long behind = behindGroups(n - 1 - i);
            long group = behind > 0 ? script / behind % BEHIND_GROUP : 0;
            if (!Commands.doGroup(trial, (int) group)) {
                return i;
            }
        }
        return NONE;
    }

    public int simulate(long seed, int m) throws IllegalArgumentException {
        if (m < 1 || m > MOST_TURNS) {
            throw new IllegalArgumentException("no such number of turns");
        }
        trial.takeFrom(board.now);
        long s = seed;
        for (int i = 0; i < m; i++) {
            s = s * 6364136223846793005L + 1442695040888963407L;
            Commands.doTurn(trial, (int) (s >>> 33));
        }
        return trial.errorOfAll();
    }

    // ---- save slots

    public int save(int slot) throws IndexOutOfBoundsException {
        if (slot < 0 || slot >= SLOTS) {
            throw new IndexOutOfBoundsException("no such save slot");
        }
        slots.keep(slot, board.now);
        return board.errorOfAll();
    }

    public int restore(int slot) throws IndexOutOfBoundsException, IllegalStateException {
        if (slot < 0 || slot >= SLOTS) {
            throw new IndexOutOfBoundsException("no such save slot");
        }
        if (!slots.isFilled(slot)) {
            throw new IllegalStateException("nothing has been saved there");
        }
        memory.forget();
        board.takeFrom(slots.in(slot));
        return board.errorOfAll();
    }

    // ---- what all of it uses

    private static boolean isGrey(int grey) {
        return grey >= 0 && grey <= MOST_GREY;
    }

    private static boolean isCountOfChanges(int most) {
        return most >= 1 && most <= MOST_BEST_CHANGES;
    }

    /** The least number that has too many digits for this many groups of a script. */
    private static long behindGroups(int count) {
        long behind = 1;
        for (int i = 0; i < count; i++) {
            behind *= BEHIND_GROUP;
        }
        return behind;
    }

    // Every index is tested here, so that no row is ever read or written beside its ends.
    private static int at(int[] row, int i) {
        return i >= 0 && i < row.length ? row[i] : 0;
    }

    private static void put(int[] row, int i, int value) {
        if (i >= 0 && i < row.length) {
            row[i] = value;
        }
    }

    private static void exchange(int[] row, int i, int j) {
        if (i >= 0 && i < row.length && j >= 0 && j < row.length) {
            int kept = row[i];
            row[i] = row[j];
            row[j] = kept;
        }
    }

    /** All that undo, save and restore bring back. Rows are as long as the largest portrait needs. */
    private static final class State {
        int n;
        int sets;
        int changes;
        final int[] greys = new int[MOST_SQUARES];
        final int[] first = new int[MOST_TILES];
        final int[] other = new int[MOST_TILES];
        final int[] laid = new int[MOST_TILES];
        final int[] turned = new int[MOST_TILES];
        final int[] held = new int[MOST_TILES];

        static void copy(State from, State to) {
            if (from == null || to == null) {
                return;
            }
            to.n = from.n;
            to.sets = from.sets;
            to.changes = from.changes;
            System.arraycopy(from.greys, 0, to.greys, 0, MOST_SQUARES);
            System.arraycopy(from.first, 0, to.first, 0, MOST_TILES);
            System.arraycopy(from.other, 0, to.other, 0, MOST_TILES);
            System.arraycopy(from.laid, 0, to.laid, 0, MOST_TILES);
            System.arraycopy(from.turned, 0, to.turned, 0, MOST_TILES);
            System.arraycopy(from.held, 0, to.held, 0, MOST_TILES);
        }
    }

    /** A ring of the states before the last actions. */
    private static final class Memory {
        private final State[] states = new State[MOST_REMEMBERED];
        private int oldest;
        int kept;

        Memory() {
            for (int i = 0; i < MOST_REMEMBERED; i++) {
                states[i] = new State();
            }
        }

        boolean isEmpty() {
            return kept == 0;
        }

        void forget() {
            kept = 0;
        }

        void remember(State state) {
            if (kept == MOST_REMEMBERED) {
                oldest = (oldest + 1) % MOST_REMEMBERED;
                kept--;
            }
            State.copy(state, stateAt((oldest + kept) % MOST_REMEMBERED));
            kept++;
        }

        State takeLast() {
            if (kept == 0) {
                return null;
            }
            kept--;
            return stateAt((oldest + kept) % MOST_REMEMBERED);
        }

        private State stateAt(int i) {
            return i >= 0 && i < states.length ? states[i] : null;
        }
    }

    private static final class Slots {
        private final State[] states = new State[SLOTS];
        private final boolean[] filled = new boolean[SLOTS];

        Slots() {
            for (int i = 0; i < SLOTS; i++) {
                states[i] = new State();
            }
        }

        void clear() {
            for (int i = 0; i < SLOTS; i++) {
                filled[i] = false;
            }
        }

        boolean isFilled(int slot) {
            return slot >= 0 && slot < filled.length && filled[slot];
        }

        void keep(int slot, State state) {
            if (slot >= 0 && slot < filled.length) {
                State.copy(state, in(slot));
                filled[slot] = true;
            }
        }

        State in(int slot) {
            return slot >= 0 && slot < states.length ? states[slot] : null;
        }
    }

    /** A portrait and its picture. Methods that take a place or a block want one that exists. */
    private static final class Board {
        final State now = new State();
        // The sizes and these five rows follow from the state: pips and shades of each tile, places of squares.
        int columns;
        int rows;
        int squares;
        int tiles;
        final int[] low = new int[MOST_TILES];
        final int[] high = new int[MOST_TILES];
        final int[] shadeA = new int[MOST_TILES];
        final int[] shadeB = new int[MOST_TILES];
        final int[] placeOn = new int[MOST_SQUARES];
        final Search search = new Search();
        private final int[] left = new int[MOST_TILES];
        private final int[] errors = new int[MOST_TILES];

        void start(int n, int sets) {
            now.n = n;
            now.sets = sets;
            now.changes = 0;
            Arrays.fill(now.greys, 0);
            Arrays.fill(now.turned, 0);
            Arrays.fill(now.held, 0);
            measure();
            for (int k = 0; k < tiles; k++) {
                placeAtFirst(k);
                put(now.laid, k, k);
            }
            markPlaces();
        }

        void takeFrom(State state) {
            State.copy(state, now);
            measure();
            markPlaces();
        }

        private void measure() {
            columns = now.n + 2;
            rows = (now.n + 1) * now.sets;
            squares = columns * rows;
            tiles = squares / 2;
            int t = 0;
            for (int set = 0; set < now.sets; set++) {
                for (int a = 0; a <= now.n; a++) {
                    for (int b = a; b <= now.n; b++) {
                        put(low, t, a);
                        put(high, t, b);
                        put(shadeA, t, shade(a));
                        put(shadeB, t, shade(b));
                        t++;
                    }
                }
            }
        }

        private void placeAtFirst(int k) {
            if (columns % 2 == 0) {
                put(now.first, k, 2 * k);
                put(now.other, k, 2 * k + 1);
            } else {
                // Two rows hold as many places as there are columns, which are odd here, so not 0.
                int upper = k + k / columns * columns;
                put(now.first, k, upper);
                put(now.other, k, upper + columns);
            }
        }

        private void markPlaces() {
            for (int k = 0; k < tiles; k++) {
                put(placeOn, at(now.first, k), k);
                put(placeOn, at(now.other, k), k);
            }
        }

        // ---- what there is

        boolean hasSquare(int x, int y) {
            return x >= 0 && x < columns && y >= 0 && y < rows;
        }

        int squareAt(int x, int y) {
            return y * columns + x;
        }

        boolean hasPlace(int k) {
            return k >= 0 && k < tiles;
        }

        boolean hasTile(int t) {
            return t >= 0 && t < tiles;
        }

        boolean isHeld(int k) {
            return at(now.held, k) != 0;
        }

        boolean isAlongRow(int k) {
            return at(now.other, k) == at(now.first, k) + 1;
        }

        int placesAlongRows() {
            int sum = 0;
            for (int k = 0; k < tiles; k++) {
                sum += isAlongRow(k) ? 1 : 0;
            }
            return sum;
        }

        int marked(int[] row) {
            int sum = 0;
            for (int k = 0; k < tiles; k++) {
                sum += at(row, k);
            }
            return sum;
        }

        int placeWith(int t) {
            for (int k = 0; k < tiles; k++) {
                if (at(now.laid, k) == t) {
                    return k;
                }
            }
            return NONE;
        }

        int pipsOn(int square) {
            int k = at(placeOn, square);
            int t = at(now.laid, k);
            boolean onFirst = at(now.first, k) == square;
            boolean isTurned = at(now.turned, k) != 0;
            return onFirst == isTurned ? at(high, t) : at(low, t);
        }

        int shade(int pips) {
            return now.n > 0 ? MOST_GREY * pips / now.n : 0;
        }

        // ---- errors

        static int miss(int grey, int shade) {
            return (grey - shade) * (grey - shade);
        }

        static int both(int grey1, int grey2, int shade1, int shade2) {
            return (grey1 - shade1) * (grey1 - shade1) + (grey2 - shade2) * (grey2 - shade2);
        }

        static int leastOf(int grey1, int grey2, int shade1, int shade2) {
            int straight = (grey1 - shade1) * (grey1 - shade1) + (grey2 - shade2) * (grey2 - shade2);
            int crossed = (grey1 - shade2) * (grey1 - shade2) + (grey2 - shade1) * (grey2 - shade1);
            return straight < crossed ? straight : crossed;
        }

        int errorAt(int k) {
            return errorLaid(k, at(now.turned, k));
        }

        int errorLaid(int k, int turned) {
            int t = at(now.laid, k);
            int grey1 = at(now.greys, at(now.first, k));
            int grey2 = at(now.greys, at(now.other, k));
            int a = at(shadeA, t);
            int b = at(shadeB, t);
            return turned == 0 ? both(grey1, grey2, a, b) : both(grey1, grey2, b, a);
        }

        /** The error of two squares with the tile t on them, laid the better way round. */
        private int leastWith(int square1, int square2, int t) {
            return leastOf(at(now.greys, square1), at(now.greys, square2), at(shadeA, t), at(shadeB, t));
        }

        private int leastAt(int k, int t) {
            return leastWith(at(now.first, k), at(now.other, k), t);
        }

        int errorOfAll() {
            int sum = 0;
            for (int k = 0; k < tiles; k++) {
                sum += errorAt(k);
            }
            return sum;
        }

        int leastOfAll() {
            int sum = 0;
            for (int square = 0; square < squares; square++) {
                int grey = at(now.greys, square);
                int least = miss(grey, shade(0));
                for (int pips = 1; pips <= now.n; pips++) {
                    least = Math.min(least, miss(grey, shade(pips)));
                }
                sum += least;
            }
            return sum;
        }

        int placeOfRank(int rank) {
            for (int k = 0; k < tiles; k++) {
                put(errors, k, errorAt(k));
            }
            for (int k = 0; k < tiles; k++) {
                if (rankOf(k) == rank) {
                    return k;
                }
            }
            return NONE;
        }

        private int rankOf(int k) {
            int worse = 0;
            int error = at(errors, k);
            for (int i = 0; i < tiles; i++) {
                int one = at(errors, i);
                worse += one > error || (one == error && i < k) ? 1 : 0;
            }
            return worse;
        }

        int bestPlaceFor(int t) {
            int best = 0;
            int least = leastAt(0, t);
            for (int k = 1; k < tiles; k++) {
                int error = leastAt(k, t);
                if (error < least) {
                    least = error;
                    best = k;
                }
            }
            return best;
        }

        // ---- the picture and what is held

        boolean tryGrey(int x, int y, int grey) {
            if (!hasSquare(x, y) || !isGrey(grey)) {
                return false;
            }
            put(now.greys, squareAt(x, y), grey);
            return true;
        }

        void fadeAll(int from, int to) {
            int far = columns + rows - 2;
            for (int square = 0; square < squares && columns > 0 && far > 0; square++) {
                int way = square % columns + square / columns;
                put(now.greys, square, (from * (far - way) + to * way) / far);
            }
        }

        boolean tryHold(int k) {
            if (!hasPlace(k)) {
                return false;
            }
            put(now.held, k, 1);
            return true;
        }

        // ---- turns and swaps

        int turnGain(int k) {
            int turned = at(now.turned, k);
            return errorLaid(k, turned) - errorLaid(k, 1 - turned);
        }

        void turnPlace(int k) {
            put(now.turned, k, 1 - at(now.turned, k));
            now.changes++;
        }

        boolean tryTurn(int k) {
            if (!hasPlace(k) || isHeld(k)) {
                return false;
            }
            turnPlace(k);
            return true;
        }

        private int swapGain(int one, int other) {
            return errorAt(one) + errorAt(other)
                    - leastAt(one, at(now.laid, other)) - leastAt(other, at(now.laid, one));
        }

        void swapPlaces(int one, int other) {
            exchange(now.laid, one, other);
            layBetterWay(one);
            layBetterWay(other);
            now.changes++;
        }

        boolean trySwap(int one, int other) {
            if (!hasPlace(one) || !hasPlace(other) || one == other || isHeld(one) || isHeld(other)) {
                return false;
            }
            swapPlaces(one, other);
            return true;
        }

        private void layBetterWay(int k) {
            put(now.turned, k, errorLaid(k, 0) > errorLaid(k, 1) ? 1 : 0);
        }

        // ---- blocks, told by the place that has the upper left square

        /** The place that makes a block with the place k at its upper left square, or NONE. */
        int partner(int k) {
            int corner = at(now.first, k);
            boolean alongRow = isAlongRow(k);
            // In the last column the next square is in another row, not at its side.
            if (columns <= 0 || (!alongRow && corner % columns == columns - 1)) {
                return NONE;
            }
            int start = corner + (alongRow ? columns : 1);
            if (start >= squares) {
                return NONE;
            }
            int l = at(placeOn, start);
            return at(now.first, l) == start && isAlongRow(l) == alongRow ? l : NONE;
        }

        int blocks() {
            int sum = 0;
            for (int k = 0; k < tiles; k++) {
                sum += partner(k) != NONE ? 1 : 0;
            }
            return sum;
        }

        /** The place that has this square at the upper left of a block, or NONE. */
        int blockAt(int square) {
            if (square < 0 || square >= squares) {
                return NONE;
            }
            int k = at(placeOn, square);
            return at(now.first, k) == square && partner(k) != NONE ? k : NONE;
        }

        boolean isFreeBlock(int k) {
            int l = partner(k);
            return l != NONE && !isHeld(k) && !isHeld(l);
        }

        int flipGain(int k, int l) {
            boolean alongRow = isAlongRow(k);
            int corner = at(now.first, k);
            int start = corner + (alongRow ? 1 : columns);
            int step = alongRow ? columns : 1;
            return errorLaid(k, at(now.turned, k)) + errorLaid(l, at(now.turned, l))
                    - leastWith(corner, corner + step, at(now.laid, k))
                    - leastWith(start, start + step, at(now.laid, l));
        }

        void flipBlock(int k) {
            int l = partner(k);
            boolean alongRow = isAlongRow(k);
            int corner = at(now.first, k);
            int start = corner + (alongRow ? 1 : columns);
            int step = alongRow ? columns : 1;
            put(now.other, k, corner + step);
            // Its other square is the lower right one, whichever way it lies.
            put(now.first, l, start);
            layBetterWay(k);
            layBetterWay(l);
            numberAnew(l);
            markPlaces();
            now.changes++;
        }

        boolean tryFlip(int x, int y) {
            int k = hasSquare(x, y) ? blockAt(squareAt(x, y)) : NONE;
            if (k == NONE || !isFreeBlock(k)) {
                return false;
            }
            flipBlock(k);
            return true;
        }

        /** Moves the place l, whose first square is another one now, to where it stands in the order. */
        private void numberAnew(int l) {
            int k = l;
            for (int i = 0; i < MOST_TILES && k > 0 && at(now.first, k - 1) > at(now.first, k); i++) {
                exchangePlaces(k - 1, k);
                k--;
            }
            for (int i = 0; i < MOST_TILES && k + 1 < tiles && at(now.first, k + 1) < at(now.first, k); i++) {
                exchangePlaces(k, k + 1);
                k++;
            }
        }

        private void exchangePlaces(int one, int other) {
            exchange(now.first, one, other);
            exchange(now.other, one, other);
            exchange(now.laid, one, other);
            exchange(now.turned, one, other);
            exchange(now.held, one, other);
        }

        // ---- tiles laid anew

        void layAnew() {
            Arrays.fill(left, 0);
            for (int k = 0; k < tiles; k++) {
                if (!isHeld(k)) {
                    put(left, at(now.laid, k), 1);
                }
            }
            for (int k = 0; k < tiles; k++) {
                if (!isHeld(k)) {
                    layBestTile(k);
                }
            }
        }

        private void layBestTile(int k) {
            int grey1 = at(now.greys, at(now.first, k));
            int grey2 = at(now.greys, at(now.other, k));
            int best = NONE;
            int least = 0;
            for (int t = 0; t < tiles; t++) {
                if (at(left, t) != 0) {
                    int error = leastOf(grey1, grey2, at(shadeA, t), at(shadeB, t));
                    if (best == NONE || error < least) {
                        best = t;
                        least = error;
                    }
                }
            }
            if (best != NONE) {
                put(left, best, 0);
                put(now.laid, k, best);
                layBetterWay(k);
            }
        }

        // ---- changes by their numbers

        boolean isPossible(int change) {
            if (change < 0 || change >= BEHIND_FLIPS) {
                return false;
            }
            int rest = change % KIND;
            if (change < SWAPS) {
                return hasPlace(rest);
            }
            if (change < FLIPS) {
                return rest / 100 < rest % 100 && hasPlace(rest % 100);
            }
            return blockAt(rest) != NONE;
        }

        int gainOf(int change) {
            int rest = change % KIND;
            if (change < SWAPS) {
                return turnGain(rest);
            }
            if (change < FLIPS) {
                return swapGain(rest / 100, rest % 100);
            }
            int k = at(placeOn, rest);
            return flipGain(k, partner(k));
        }

        void doBestChanges(int most) {
            for (int i = 0; i < most; i++) {
                search.findIn(this);
                if (search.gained <= 0) {
                    return;
                }
                int rest = search.change % KIND;
                if (search.change < SWAPS) {
                    turnPlace(rest);
                } else if (search.change < FLIPS) {
                    swapPlaces(rest / 100, rest % 100);
                } else {
                    flipBlock(at(placeOn, rest));
                }
            }
        }
    }

    /** Finds the best change. Its rows save working out greys anew for each of some 1,500 swaps. */
    private static final class Search {
        int change;
        int gained;
        private final int[] held = new int[MOST_TILES];
        private final int[] grey1 = new int[MOST_TILES];
        private final int[] grey2 = new int[MOST_TILES];
        private final int[] shade1 = new int[MOST_TILES];
        private final int[] shade2 = new int[MOST_TILES];
        private final int[] errors = new int[MOST_TILES];

        // Changes are offered by rising numbers, so of several with the same gain the least one stays.
        void findIn(Board board) {
            change = NONE;
            gained = 0;
            fillRows(board);
            for (int k = 0; k < board.tiles; k++) {
                if (!board.isHeld(k)) {
                    offer(k, board.turnGain(k));
                }
            }
            for (int k = 0; k < board.tiles; k++) {
                if (!board.isHeld(k)) {
                    offerSwapsOf(k, board.tiles);
                }
            }
            for (int k = 0; k < board.tiles; k++) {
                int l = board.partner(k);
                if (l != NONE && !board.isHeld(k) && !board.isHeld(l)) {
                    offer(FLIPS + at(board.now.first, k), board.flipGain(k, l));
                }
            }
        }

        private void fillRows(Board board) {
            State now = board.now;
            for (int k = 0; k < board.tiles; k++) {
                int t = at(now.laid, k);
                put(held, k, at(now.held, k));
                put(grey1, k, at(now.greys, at(now.first, k)));
                put(grey2, k, at(now.greys, at(now.other, k)));
                put(shade1, k, at(board.shadeA, t));
                put(shade2, k, at(board.shadeB, t));
                put(errors, k, board.errorLaid(k, at(now.turned, k)));
            }
        }

        private void offerSwapsOf(int one, int count) {
            int number = SWAPS + 100 * one;
            int first = at(grey1, one);
            int second = at(grey2, one);
            int a = at(shade1, one);
            int b = at(shade2, one);
            int error = at(errors, one);
            // The rows are all of this length; the loop is the dearest of all, so it tests the index by itself.
            for (int k = Math.max(one, 0) + 1; k < count && k < MOST_TILES; k++) {
                if (held[k] == 0) {
                    int then = Board.leastOf(first, second, shade1[k], shade2[k])
                            + Board.leastOf(grey1[k], grey2[k], a, b);
                    offer(number + k, error + errors[k] - then);
                }
            }
        }

        private void offer(int number, int gain) {
            if (change == NONE || gain > gained) {
                change = number;
                gained = gain;
            }
        }
    }

    /** The text buffer, and what a text must be. */
    private static final class Text {
        private final char[] signs = new char[MOST_TEXT];
        int length;

        boolean isFull() {
            return length >= MOST_TEXT;
        }

        void add(int c) {
            if (length >= 0 && length < signs.length) {
                signs[length] = (char) c;
                length++;
            }
        }

        int signAt(int i) {
            return i >= 0 && i < length && i < signs.length ? signs[i] : NONE;
        }

        int digitAt(int i) {
            return signAt(i) - '0';
        }

        int twoDigitsAt(int i) {
            return 10 * digitAt(i) + digitAt(i + 1);
        }

        int firstError() {
            if (signAt(0) != 'D') {
                return 0;
            }
            int wrong = firstWrong("Dns", 0);
            int from = HEADER;
            for (int i = 0; i < MOST_TEXT && wrong == NONE && from < length; i++) {
                String form = formOf(signAt(from));
                wrong = form.isEmpty() ? from : firstWrong(form, from);
                from += form.length();
            }
            return wrong;
        }

        /** The first position behind the letter at from where the text is not of the form, or NONE. */
        private int firstWrong(String form, int from) {
            for (int i = 1; i < form.length(); i++) {
                if (!suits(form.charAt(i), digitAt(from + i), digitAt(from + i - 1))) {
                    return from + i;
                }
            }
            return NONE;
        }

        /** A sign for each sign of the command that begins with this letter; empty if none does. */
        static String formOf(int letter) {
            switch (letter) {
                case 'p': return "pxYydd";
                case 'f': return "fdddd";
                case 't': return "tKk";
                case 's': return "sKkKk";
                case 'b': return "bxYy";
                case 'h': return "hKk";
                case 'l': return "l";
                case 'i': return "iCc";
                default: return "";
            }
        }

        /** Whether a digit is allowed: a capital is for the first of two digits, small for the second. */
        private static boolean suits(int kind, int digit, int before) {
            if (digit < 0 || digit > 9) {
                return false;
            }
            switch (kind) {
                case 'n': return digit >= LEAST_N && digit <= MOST_N;
                case 's': return digit >= 1 && digit <= MOST_SETS;
                case 'x': return digit <= 7;
                case 'Y': return digit <= 1;
                case 'y': return before < 1 || digit <= 3;
                case 'K': return digit <= 5;
                case 'k': return before < 5 || digit <= 5;
                case 'C': return digit <= 2;
                case 'c': return before == 0 ? digit >= 1 : before == 1 || digit == 0;
                default: return true;
            }
        }
    }

    /** Single commands of texts, of scripts and of simulations, done on a board. */
    private static final class Commands {

        /** Does the command whose letter is at this position of the text; false if it would throw. */
        static boolean doInText(Board board, Text text, int from) {
            int column = text.digitAt(from + 1);
            int row = text.twoDigitsAt(from + 2);
            int number = text.twoDigitsAt(from + 1);
            int second = text.twoDigitsAt(from + 3);
            switch (text.signAt(from)) {
                case 'p': return board.tryGrey(column, row, text.twoDigitsAt(from + 4));
                case 't': return board.tryTurn(number);
                case 's': return board.trySwap(number, second);
                case 'b': return board.tryFlip(column, row);
                case 'h': return board.tryHold(number);
                case 'f': board.fadeAll(number, second); return true;
                case 'l': board.layAnew(); return true;
                case 'i': board.doBestChanges(number); return true;
                default: return false;
            }
        }

        /** Does a command of a script, or answers its question; false if it fails. */
        static boolean doGroup(Board board, int group) {
            int rest = group % 100000;
            int x = rest / 10000;
            int y = rest / 100 % 100;
            int k = rest / 1000;
            int middle = rest / 10 % 100;
            int last = rest % 10;
            switch (group / 100000) {
                case 1: return board.tryGrey(x, y, rest % 100);
                case 2: return rest % 1000 == 0 && board.tryTurn(k);
                case 3: return last == 0 && board.trySwap(k, middle);
                case 4: return rest % 100 == 0 && board.tryFlip(x, y);
                case 5:
                    if (!isCountOfChanges(rest)) {
                        return false;
                    }
                    board.doBestChanges(rest);
                    return true;
                case 6: return last == 0 && board.hasPlace(k) && board.hasTile(middle)
                        && at(board.now.laid, k) == middle;
                case 7: return middle == 0 && board.hasPlace(k) && at(board.now.turned, k) == last;
                case 8: return last == 0 && board.hasSquare(x, y)
                        && board.pipsOn(board.squareAt(x, y)) == middle % 10;
                case 9: return board.errorOfAll() <= rest;
                default: return false;
            }
        }

        /** Does one turn of a simulation. */
        static void doTurn(Board board, int r) {
            int q = r / 8;
            switch (r % 8) {
                case 0:
                case 1: board.tryGrey(q % 8, q / 8 % 14, q / 128 % 100); break;
                case 2: board.tryTurn(q % 56); break;
                case 3:
                case 4: board.trySwap(q % 56, q / 64 % 56); break;
                case 5: board.tryFlip(q % 8, q / 8 % 14); break;
                case 6:
                    if (q % 4 == 0) {
                        board.fadeAll(q % 100, q / 128 % 100);
                    } else {
                        board.layAnew();
                    }
                    break;
                default: board.doBestChanges(1 + q % 4); break;
            }
        }
    }
}
