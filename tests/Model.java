import java.util.ArrayList;
import java.util.Collections;
import java.util.Comparator;
import java.util.List;
import java.util.regex.Matcher;
import java.util.regex.Pattern;

/**
 * A second portrait, made for comparing: as slow and plain as can be. Every gain is found by doing
 * the change on a copy and looking at the error of the whole portrait; every state is a copy.
 */
final class Model {
    private static final Pattern PORTRAIT = Pattern.compile("D[2-6][12]("
            + "p[0-7](0[0-9]|1[0-3])[0-9][0-9]|f[0-9][0-9][0-9][0-9]|t([0-4][0-9]|5[0-5])"
            + "|s([0-4][0-9]|5[0-5])([0-4][0-9]|5[0-5])|b[0-7](0[0-9]|1[0-3])|h([0-4][0-9]|5[0-5])"
            + "|l|i(0[1-9]|1[0-9]|20))*", Pattern.DOTALL);

    private static final class Place {
        int x1, y1, x2, y2;
        int tile;
        boolean turned;
        boolean held;

        Place(int x1, int y1, int x2, int y2) {
            this.x1 = x1; this.y1 = y1; this.x2 = x2; this.y2 = y2;
        }
    }

    private static final class Scene {
        int n, sets, columns, rows, changes;
        int[][] greys;
        List<int[]> tiles = new ArrayList<>();
        List<Place> places = new ArrayList<>();

        Scene(int n, int sets) {
            this.n = n;
            this.sets = sets;
            columns = n + 2;
            rows = (n + 1) * sets;
            greys = new int[columns][rows];
            for (int s = 0; s < sets; s++)
                for (int a = 0; a <= n; a++)
                    for (int b = a; b <= n; b++) tiles.add(new int[] {a, b});
            boolean[][] covered = new boolean[columns][rows];
            for (int y = 0; y < rows; y++)
                for (int x = 0; x < columns; x++)
                    if (!covered[x][y]) {
                        int x2 = columns % 2 == 0 ? x + 1 : x, y2 = columns % 2 == 0 ? y : y + 1;
                        Place p = new Place(x, y, x2, y2);
                        covered[x][y] = covered[x2][y2] = true;
                        p.tile = places.size();
                        places.add(p);
                    }
        }

        Scene copy() {
            Scene c = new Scene(n, sets);
            c.changes = changes;
            for (int x = 0; x < columns; x++) c.greys[x] = greys[x].clone();
            c.places.clear();
            for (Place p : places) {
                Place q = new Place(p.x1, p.y1, p.x2, p.y2);
                q.tile = p.tile; q.turned = p.turned; q.held = p.held;
                c.places.add(q);
            }
            return c;
        }

        boolean hasSquare(int x, int y) { return x >= 0 && x < columns && y >= 0 && y < rows; }
        boolean hasPlace(int k) { return k >= 0 && k < places.size(); }

        int pips(Place p, boolean onFirst) {
            int[] t = tiles.get(p.tile);
            return onFirst != p.turned ? t[0] : t[1];
        }

        int shade(int pips) { return 99 * pips / n; }
        int squareError(int x, int y, int pips) { int d = greys[x][y] - shade(pips); return d * d; }
        int error(Place p) { return squareError(p.x1, p.y1, pips(p, true)) + squareError(p.x2, p.y2, pips(p, false)); }

        int error() {
            int sum = 0;
            for (Place p : places) sum += error(p);
            return sum;
        }

        Place placeOn(int x, int y) {
            for (Place p : places) if ((p.x1 == x && p.y1 == y) || (p.x2 == x && p.y2 == y)) return p;
            throw new AssertionError("no place on a square");
        }

        void layBetter(Place p) {
            p.turned = false;
            int straight = error(p);
            p.turned = true;
            int crossed = error(p);
            p.turned = straight > crossed;
        }

        int errorWith(Place p, int t) {
            Place q = new Place(p.x1, p.y1, p.x2, p.y2);
            q.tile = t;
            layBetter(q);
            return error(q);
        }

        int order(Place p) { return p.y1 * columns + p.x1; }

        // The two places of the block, or null.
        Place[] block(int x, int y) {
            if (!hasSquare(x, y) || !hasSquare(x + 1, y + 1)) return null;
            Place a = placeOn(x, y);
            Place b = placeOn(x + 1, y + 1);
            if (a == b) return null;
            Place c = placeOn(x + 1, y);
            Place d = placeOn(x, y + 1);
            boolean inside = (c == a && d == b) || (c == b && d == a);
            return inside ? new Place[] {a, b} : null;
        }

        void flip(int x, int y) {
            Place[] two = block(x, y);
            if (two[0].y1 == two[0].y2) {
                two[0].x2 = x; two[0].y2 = y + 1;
                two[1].x1 = x + 1; two[1].y1 = y; two[1].x2 = x + 1; two[1].y2 = y + 1;
            } else {
                two[0].x2 = x + 1; two[0].y2 = y;
                two[1].x1 = x; two[1].y1 = y + 1; two[1].x2 = x + 1; two[1].y2 = y + 1;
            }
            layBetter(two[0]);
            layBetter(two[1]);
            places.sort(Comparator.comparingInt(this::order));
        }

        boolean possible(int change) {
            if (change < 0) return false;
            int kind = change / 10000, rest = change % 10000;
            if (kind == 0) return hasPlace(rest);
            if (kind == 1) return hasPlace(rest / 100) && hasPlace(rest % 100) && rest / 100 < rest % 100;
            return kind == 2 && block(rest % columns, rest / columns) != null;
        }

        boolean free(int change) {
            int kind = change / 10000, rest = change % 10000;
            if (kind == 0) return !places.get(rest).held;
            if (kind == 1) return !places.get(rest / 100).held && !places.get(rest % 100).held;
            Place[] two = block(rest % columns, rest / columns);
            return !two[0].held && !two[1].held;
        }

        void change(int change) {
            int kind = change / 10000, rest = change % 10000;
            if (kind == 0) {
                Place p = places.get(rest);
                p.turned = !p.turned;
            } else if (kind == 1) {
                Place p = places.get(rest / 100), q = places.get(rest % 100);
                int t = p.tile;
                p.tile = q.tile;
                q.tile = t;
                layBetter(p);
                layBetter(q);
            } else {
                flip(rest % columns, rest / columns);
            }
            changes++;
        }

        int gain(int change) {
            Scene c = copy();
            c.change(change);
            return error() - c.error();
        }

        // Number and gain of the best change; null if there is none.
        int[] best() {
            int[] best = null;
            for (int kind = 0; kind < 3; kind++) {
                int most = kind == 0 ? places.size() : kind == 1 ? 100 * places.size() : columns * rows;
                for (int rest = 0; rest < most; rest++) {
                    int number = 10000 * kind + rest;
                    if (possible(number) && free(number)) {
                        int gain = gain(number);
                        if (best == null || gain > best[1]) best = new int[] {number, gain};
                    }
                }
            }
            return best;
        }

        int improve(int most) {
            int sum = 0;
            for (int i = 0; i < most; i++) {
                int[] best = best();
                if (best == null || best[1] <= 0) break;
                change(best[0]);
                sum += best[1];
            }
            return sum;
        }

        int lay() {
            int before = error();
            List<Integer> left = new ArrayList<>();
            for (Place p : places) if (!p.held) left.add(p.tile);
            Collections.sort(left);
            for (Place p : places) {
                if (p.held) continue;
                Integer chosen = left.get(0);
                for (Integer t : left) if (errorWith(p, t) < errorWith(p, chosen)) chosen = t;
                left.remove(chosen);
                p.tile = chosen;
                layBetter(p);
            }
            return before - error();
        }

        int fade(int from, int to) {
            int m = columns + rows - 2;
            for (int x = 0; x < columns; x++)
                for (int y = 0; y < rows; y++) greys[x][y] = (from * (m - x - y) + to * (x + y)) / m;
            return error();
        }

        // Each of the following throws what the method of the face throws.

        int doGrey(int x, int y, int grey) {
            if (!hasSquare(x, y)) throw new IndexOutOfBoundsException();
            if (grey < 0 || grey > 99) throw new IllegalArgumentException();
            int old = greys[x][y];
            greys[x][y] = grey;
            return old;
        }

        int doFade(int from, int to) {
            if (from < 0 || from > 99 || to < 0 || to > 99) throw new IllegalArgumentException();
            return fade(from, to);
        }

        int doTurn(int k) {
            if (!hasPlace(k)) throw new IndexOutOfBoundsException();
            if (places.get(k).held) throw new IllegalStateException();
            int gain = gain(k);
            change(k);
            return gain;
        }

        int doSwap(int one, int other) {
            if (!hasPlace(one) || !hasPlace(other)) throw new IndexOutOfBoundsException();
            if (one == other) throw new IllegalArgumentException();
            if (places.get(one).held || places.get(other).held) throw new IllegalStateException();
            int number = 10000 + 100 * Math.min(one, other) + Math.max(one, other);
            int gain = gain(number);
            change(number);
            return gain;
        }

        int doFlip(int x, int y) {
            if (!hasSquare(x, y)) throw new IndexOutOfBoundsException();
            int number = 20000 + y * columns + x;
            if (block(x, y) == null || !free(number)) throw new IllegalStateException();
            int gain = gain(number);
            change(number);
            return gain;
        }

        int doHold(int k, boolean hold) {
            if (!hasPlace(k)) throw new IndexOutOfBoundsException();
            places.get(k).held = hold;
            int sum = 0;
            for (Place p : places) if (p.held) sum++;
            return sum;
        }

        int doImprove(int most) {
            if (most < 1 || most > 20) throw new IllegalArgumentException();
            return improve(most);
        }
    }

    private Scene now = new Scene(3, 1);
    private final List<Scene> remembered = new ArrayList<>();
    private final Scene[] slots = new Scene[2];
    private String text = "";

    private interface Action {
        int on(Scene scene);
    }

    private int act(Action action) {
        Scene before = now.copy();
        int answer = action.on(now);
        remembered.add(before);
        if (remembered.size() > 14) remembered.remove(0);
        return answer;
    }

    private static boolean succeeds(Action action, Scene scene) {
        try {
            action.on(scene);
            return true;
        } catch (IndexOutOfBoundsException | IllegalArgumentException | IllegalStateException e) {
            return false;
        }
    }

    int append(int c) {
        if (c < 0 || c > 255) throw new IllegalArgumentException();
        if (text.length() == 120) throw new IllegalStateException();
        text += (char) c;
        return text.length();
    }

    int clearText() {
        int length = text.length();
        text = "";
        return length;
    }

    int errorPosition() {
        for (int i = 1; i <= text.length(); i++) {
            Matcher m = PORTRAIT.matcher(text.substring(0, i));
            if (!m.matches() && !m.hitEnd()) return i - 1;
        }
        return PORTRAIT.matcher(text).matches() ? -1 : text.length();
    }

    int load() {
        if (!PORTRAIT.matcher(text).matches()) throw new IllegalStateException();
        now = new Scene(text.charAt(1) - '0', text.charAt(2) - '0');
        remembered.clear();
        slots[0] = slots[1] = null;
        int out = 0;
        for (String command : text.substring(3).split("(?=[a-z])")) {
            if (command.isEmpty()) continue;
            String c = command.substring(1);
            int two = c.length() < 2 ? 0 : Integer.parseInt(c.substring(0, 2));
            Action action;
            switch (command.charAt(0)) {
                case 'p': action = s -> s.doGrey(c.charAt(0) - '0', Integer.parseInt(c.substring(1, 3)), Integer.parseInt(c.substring(3))); break;
                case 'f': action = s -> s.doFade(two, Integer.parseInt(c.substring(2))); break;
                case 't': action = s -> s.doTurn(two); break;
                case 's': action = s -> s.doSwap(two, Integer.parseInt(c.substring(2))); break;
                case 'b': action = s -> s.doFlip(c.charAt(0) - '0', Integer.parseInt(c.substring(1))); break;
                case 'h': action = s -> s.doHold(two, true); break;
                case 'l': action = Scene::lay; break;
                default: action = s -> s.doImprove(two);
            }
            if (!succeeds(action, now)) out++;
        }
        return out;
    }

    int about(int what) {
        int sum = 0;
        switch (what) {
            case 0: return now.n;
            case 1: return now.sets;
            case 2: return now.columns;
            case 3: return now.rows;
            case 4: return now.tiles.size();
            case 5: return now.error();
            case 6: for (Place p : now.places) sum += p.y1 == p.y2 ? 1 : 0; return sum;
            case 7: for (Place p : now.places) sum += p.turned ? 1 : 0; return sum;
            case 8: for (Place p : now.places) sum += p.held ? 1 : 0; return sum;
            case 9:
                for (int x = 0; x < now.columns; x++)
                    for (int y = 0; y < now.rows; y++) sum += now.block(x, y) != null ? 1 : 0;
                return sum;
            case 10: return now.changes;
            default: throw new IllegalArgumentException();
        }
    }

    int square(int x, int y, int what) {
        if (!now.hasSquare(x, y)) throw new IndexOutOfBoundsException();
        Place p = now.placeOn(x, y);
        int pips = now.pips(p, p.x1 == x && p.y1 == y);
        switch (what) {
            case 0: return now.greys[x][y];
            case 1: return now.shade(pips);
            case 2: return now.squareError(x, y, pips);
            case 3: return now.places.indexOf(p);
            case 4: return pips;
            default: throw new IllegalArgumentException();
        }
    }

    int place(int k, int what) {
        if (!now.hasPlace(k)) throw new IndexOutOfBoundsException();
        Place p = now.places.get(k);
        switch (what) {
            case 0: return now.order(p);
            case 1: return p.y2 * now.columns + p.x2;
            case 2: return p.tile;
            case 3: return p.turned ? 1 : 0;
            case 4: return now.error(p);
            case 5: return p.held ? 1 : 0;
            case 6: return p.y1 == p.y2 ? 1 : 0;
            default: throw new IllegalArgumentException();
        }
    }

    int tile(int t, int what) {
        if (t < 0 || t >= now.tiles.size()) throw new IndexOutOfBoundsException();
        switch (what) {
            case 0: return now.tiles.get(t)[0];
            case 1: return now.tiles.get(t)[1];
            case 2:
                for (int k = 0; k < now.places.size(); k++) if (now.places.get(k).tile == t) return k;
                throw new AssertionError("a tile lies nowhere");
            default: throw new IllegalArgumentException();
        }
    }

    int begin(int n, int sets) {
        if (n < 2 || n > 6 || sets < 1 || sets > 2) throw new IllegalArgumentException();
        return act(s -> {
            now = new Scene(n, sets);
            return now.tiles.size();
        });
    }

    int grey(int x, int y, int grey) { return act(s -> s.doGrey(x, y, grey)); }
    int fade(int from, int to) { return act(s -> s.doFade(from, to)); }
    int turn(int k) { return act(s -> s.doTurn(k)); }
    int swap(int one, int other) { return act(s -> s.doSwap(one, other)); }
    int flip(int x, int y) { return act(s -> s.doFlip(x, y)); }
    int hold(int k, boolean hold) { return act(s -> s.doHold(k, hold)); }
    int lay() { return act(Scene::lay); }
    int improve(int most) { return act(s -> s.doImprove(most)); }

    int undo() {
        if (remembered.isEmpty()) throw new IllegalStateException();
        now = remembered.remove(remembered.size() - 1);
        return remembered.size();
    }

    int gain(int change) {
        if (!now.possible(change)) throw new IllegalArgumentException();
        return now.gain(change);
    }

    int best(int what) {
        if (what < 0 || what > 1) throw new IllegalArgumentException();
        int[] best = now.best();
        return best == null ? what - 1 : best[what];
    }

    int ifImproved(int most, int what) {
        if (most < 1 || most > 20 || what < 0 || what > 1) throw new IllegalArgumentException();
        Scene c = now.copy();
        c.changes = 0;
        int sum = c.improve(most);
        return what == 0 ? sum : c.changes;
    }

    int least() {
        int sum = 0;
        for (int x = 0; x < now.columns; x++)
            for (int y = 0; y < now.rows; y++) {
                int least = Integer.MAX_VALUE;
                for (int p = 0; p <= now.n; p++) least = Math.min(least, now.squareError(x, y, p));
                sum += least;
            }
        return sum;
    }

    int worst(int rank) {
        if (!now.hasPlace(rank)) throw new IndexOutOfBoundsException();
        List<Place> sorted = new ArrayList<>(now.places);
        sorted.sort((p, q) -> now.error(q) - now.error(p));
        return now.places.indexOf(sorted.get(rank));
    }

    int fits(int t) {
        if (t < 0 || t >= now.tiles.size()) throw new IndexOutOfBoundsException();
        int best = 0;
        for (int k = 0; k < now.places.size(); k++)
            if (now.errorWith(now.places.get(k), t) < now.errorWith(now.places.get(best), t)) best = k;
        return best;
    }

    int runScript(int n, long script) {
        if (n < 1 || n > 3 || script < 0 || Long.toString(script).length() > 6 * n) throw new IllegalArgumentException();
        String digits = Long.toString(script);
        while (digits.length() < 6 * n) digits = "0" + digits;
        Scene c = now.copy();
        for (int i = 0; i < n; i++) if (!group(c, digits.substring(6 * i, 6 * i + 6))) return i;
        return -1;
    }

    private static boolean group(Scene c, String g) {
        int x = g.charAt(1) - '0';
        int yy = Integer.parseInt(g.substring(2, 4));
        int kk = Integer.parseInt(g.substring(1, 3));
        int ll = Integer.parseInt(g.substring(3, 5));
        int end = Integer.parseInt(g.substring(4));
        if (g.matches("1.....")) return succeeds(s -> s.doGrey(x, yy, end), c);
        if (g.matches("2..000")) return succeeds(s -> s.doTurn(kk), c);
        if (g.matches("3....0")) return succeeds(s -> s.doSwap(kk, ll), c);
        if (g.matches("4...00")) return succeeds(s -> s.doFlip(x, yy), c);
        if (g.matches("5000..")) return succeeds(s -> s.doImprove(end), c);
        if (g.matches("6....0")) return c.hasPlace(kk) && c.places.get(kk).tile == ll;
        if (g.matches("7..00[01]")) return c.hasPlace(kk) && c.places.get(kk).turned == g.endsWith("1");
        if (g.matches("8....0")) {
            if (!c.hasSquare(x, yy)) return false;
            Place p = c.placeOn(x, yy);
            return c.pips(p, p.x1 == x && p.y1 == yy) == g.charAt(4) - '0';
        }
        if (g.matches("9.....")) return c.error() <= Integer.parseInt(g.substring(1));
        return false;
    }

    int simulate(long seed, int m) {
        if (m < 1 || m > 30) throw new IllegalArgumentException();
        Scene c = now.copy();
        long s = seed;
        for (int i = 0; i < m; i++) {
            s = s * 6364136223846793005L + 1442695040888963407L;
            int r = (int) (s >>> 33);
            int q = r / 8;
            Action action;
            int kind = r % 8;
            if (kind <= 1) action = z -> z.doGrey(q % 8, q / 8 % 14, q / 128 % 100);
            else if (kind == 2) action = z -> z.doTurn(q % 56);
            else if (kind <= 4) action = z -> z.doSwap(q % 56, q / 64 % 56);
            else if (kind == 5) action = z -> z.doFlip(q % 8, q / 8 % 14);
            else if (kind == 6 && q % 4 == 0) action = z -> z.doFade(q % 100, q / 128 % 100);
            else if (kind == 6) action = Scene::lay;
            else action = z -> z.doImprove(1 + q % 4);
            succeeds(action, c);
        }
        return c.error();
    }

    int save(int slot) {
        if (slot < 0 || slot > 1) throw new IndexOutOfBoundsException();
        slots[slot] = now.copy();
        return now.error();
    }

    int restore(int slot) {
        if (slot < 0 || slot > 1) throw new IndexOutOfBoundsException();
        if (slots[slot] == null) throw new IllegalStateException();
        now = slots[slot].copy();
        remembered.clear();
        return now.error();
    }
}
