import java.util.ArrayList;
import java.util.Arrays;
import java.util.HashMap;
import java.util.List;
import java.util.Map;

/**
 * The document once more, written for plainness alone and in other ways than the program: the law
 * by splitting its text, rounds as lists of minutes, orders by listing them all.
 */
final class Naive {
    private static final int[] LEAST = {0, 0, 0, 0, 0, 0, 0, 1, 0, 0, 0, 0, 1, 1};
    private static final int[] MOST = {99, 99, 99, 9, 9, 99, 999, 99, 9999, 9999, 12, 9999, 99, 99};

    private static final class Spot {
        int[] told;
        int share;
        int listened;
    }

    private static final class Minute {
        int place;
        int ahead;
        int minute;
        int foundThen;
    }

    private static final class Walk {
        int[] shares;
        int[] heard;
        int found;
        int minute;
        int at = -1;
        List<Minute> minutes = new ArrayList<>();
        List<int[]> twos = new ArrayList<>();
    }

    final List<Spot> spots = new ArrayList<>();
    final int[] told = {0, 0, 0, 0, 0, 0, 180, 20, 60, 90, 3, 20, 60, 20};
    String law = null;
    StringBuilder tape = new StringBuilder();
    int now, at = -1, goings, minutes, found, finds;
    int[] image;
    int[][] imageSpots;
    final List<int[]> undos = new ArrayList<>();
    final List<int[]> redos = new ArrayList<>();
    final Object[] shelves = new Object[6];
    final List<Integer> bodies = new ArrayList<>();

    // ---- the law

    private static boolean endsOperand(char c) {
        return Character.isDigit(c) || Character.isLetter(c) || c == ')';
    }

    /** The last top-level binary sign of these in the text, or -1. */
    private static int lastSign(String s, String signs) {
        int deep = 0;
        for (int i = s.length() - 1; i >= 0; i--) {
            char c = s.charAt(i);
            if (c == ')') deep++;
            if (c == '(') deep--;
            if (deep == 0 && signs.indexOf(c) >= 0 && i > 0 && endsOperand(s.charAt(i - 1))) return i;
        }
        return -1;
    }

    private static final String[] RANKS = {"|", "&", "<=>", "+-", "*/%"};

    private static boolean isE(String s, int rank, int open) {
        if (s.isEmpty() || open > 6) return false;
        if (rank < 5) {
            int cut = lastSign(s, RANKS[rank]);
            if (cut < 0) return isE(s, rank + 1, open);
            int left = rank == 2 ? rank + 1 : rank;
            return isE(s.substring(0, cut), left, open) && isE(s.substring(cut + 1), rank + 1, open);
        }
        if (s.matches("[0-9]{1,4}") || s.matches("[hdkmcp]")) return true;
        if (s.charAt(0) == '!' || s.charAt(0) == '-') return isE(s.substring(1), 5, open + 1);
        return s.length() > 2 && s.charAt(0) == '(' && s.endsWith(")") && isE(s.substring(1, s.length() - 1), 0, open + 1);
    }

    private static String[] parts(String s, char by) {
        return s.split(java.util.regex.Pattern.quote("" + by), -1);
    }

    static boolean isText(String s) {
        for (String line : parts(s, ';')) {
            String[] es = parts(line, '?');
            if (es.length > 2) return false;
            for (String e : es) if (!isE(e, 0, 0)) return false;
        }
        return true;
    }

    /** Whether some TEXT begins so: an operand, brackets, or both complete it. */
    private static boolean goesOn(String s) {
        for (String operand : new String[] {"", "1"}) {
            String all = s + operand;
            for (int i = 0; i <= 6; i++) {
                if (isText(all)) return true;
                all += ")";
            }
        }
        return false;
    }

    private static int faultOf(String s) {
        for (int i = 0; i < s.length(); i++) if (!goesOn(s.substring(0, i + 1))) return i;
        return s.length();
    }

    private static int value(String s, int rank, Map<Character, Integer> names) {
        if (rank < 5) {
            int cut = lastSign(s, RANKS[rank]);
            if (cut < 0) return value(s, rank + 1, names);
            int a = value(s.substring(0, cut), rank, names), b = value(s.substring(cut + 1), rank + 1, names);
            switch (s.charAt(cut)) {
                case '|': return a != 0 | b != 0 ? 1 : 0;
                case '&': return a == 0 || b == 0 ? 0 : 1;
                case '<': return a < b ? 1 : 0;
                case '=': return a == b ? 1 : 0;
                case '>': return a > b ? 1 : 0;
                case '+': return a + b;
                case '-': return a - b;
                case '*': return a * b;
                case '/': return b == 0 ? 0 : a / b;
                default: return b == 0 ? 0 : a % b;
            }
        }
        char c = s.charAt(0);
        if (c == '(') return value(s.substring(1, s.length() - 1), 0, names);
        if (c == '!') return value(s.substring(1), 5, names) == 0 ? 1 : 0;
        if (c == '-') return -value(s.substring(1), 5, names);
        return Character.isDigit(c) ? Integer.parseInt(s) : names.get(c);
    }

    private int twelfths(int p, int k, int m) {
        int[] t = spots.get(p).told;
        int c = Math.max(0, told[6] - m), given = 0;
        if (law == null) {
            given = c > 0 ? t[3] - t[4] : t[4] == 0 ? 1 : 0;
        } else {
            Map<Character, Integer> names = new HashMap<>(Map.of('h', t[3], 'd', t[4], 'k', k, 'm', m, 'c', c, 'p', p));
            for (String line : parts(law, ';')) {
                String[] es = parts(line, '?');
                if (es.length == 2 && value(es[0], 0, names) == 0) continue;
                given = value(es[es.length - 1], 0, names);
                break;
            }
        }
        return given < 0 ? 0 : given > 12 ? 12 : given;
    }

    // ---- places

    int place(int xy, int odds) {
        if (xy < 0 || xy > 9999 || odds < 0 || odds > 99) return -1;
        if (spots.size() == 8) return -3;
        Spot spot = new Spot();
        spot.told = new int[] {xy % 100, xy / 100, odds, 5, 0};
        spots.add(spot);
        return spots.size() - 1;
    }

    int places(int shelf, int i, int n) {
        if (shelf < 0 || shelf > 5 || n < 1 || n > 8) return -1;
        if (shelves[shelf] == null) return 0;
        if (!(shelves[shelf] instanceof byte[])) return -12;
        byte[] row = (byte[]) shelves[shelf];
        int came = 0;
        for (long at = i; came < n; at += 3) {
            if (at < 0 || at + 2 >= row.length) break;
            int x = row[(int) at], y = row[(int) at + 1], odds = row[(int) at + 2];
            if (x < 0 || x > 99 || y < 0 || y > 99 || odds < 0 || odds > 99) break;
            if (place(100 * y + x, odds) < 0) break;
            came++;
        }
        return came;
    }

    private int[] where(int number, int what) {
        if (what < 0 || what > 13) return null;
        if (what < 5) return number >= 0 && number < spots.size() ? spots.get(number).told : null;
        return number == 0 ? told : null;
    }

    int mend(int number, int what, int v) {
        int[] row = where(number, what);
        if (row == null || v < LEAST[what] || v > MOST[what]) return -1;
        int was = row[what];
        if (was != v) {
            undos.add(new int[] {number, what, was, v});
            if (undos.size() > 40) undos.remove(0);
            redos.clear();
            row[what] = v;
        }
        return was;
    }

    int of(int number, int what) {
        if (what == 14 || what == 15) {
            if (number < 0 || number >= spots.size()) return -1;
            return what == 14 ? spots.get(number).share : spots.get(number).listened;
        }
        int[] row = where(number, what);
        return row == null ? -1 : row[what];
    }

    int feed(int letter) {
        if (letter < 0 || letter > 255) return -1;
        if (tape.length() == 120) return -3;
        return tape.append((char) letter).length();
    }

    int law() {
        String text = tape.toString();
        tape = new StringBuilder();
        if (!isText(text)) return -100 - faultOf(text);
        law = text;
        return 1;
    }

    int hears(int place, int km) {
        if (place < 0 || place >= spots.size() || km < 0 || km > 999999) return -1;
        return twelfths(place, km / 1000, km % 1000);
    }

    // ---- rounds in thought

    private int millionths(int odds) {
        long all = told[5];
        for (Spot s : spots) all += s.told[2];
        return all == 0 ? 0 : (int) (1000000L * odds / all);
    }

    private int way(int from, int to) {
        int[] a = spots.get(from < 0 ? 0 : from).told, b = spots.get(to).told;
        int yards = Math.abs(a[0] - b[0]) + Math.abs(a[1] - b[1]), way = 0;
        while (way * told[7] < yards) way++;
        return way;
    }

    private Walk begun() {
        Walk w = new Walk();
        w.shares = new int[spots.size()];
        w.heard = new int[spots.size()];
        for (int p = 0; p < spots.size(); p++) w.shares[p] = millionths(spots.get(p).told[2]);
        return w;
    }

    private boolean goOn(Walk w, int place, int n) {
        if (place < 0 || place >= spots.size() || n < 1 || n > 99) return false;
        int start = w.minute + way(w.at, place);
        if (start + n > 999) return false;
        w.at = place;
        for (int m = start; m < start + n; m++) {
            int gives = twelfths(place, w.heard[place], m), share = w.shares[place];
            w.shares[place] = (int) (share * (12L - gives) / 12);
            w.found += share - w.shares[place];
            Minute one = new Minute();
            one.place = place;
            one.ahead = w.heard[place]++;
            one.minute = m;
            one.foundThen = w.found;
            w.minutes.add(one);
        }
        w.minute = start + n;
        w.twos.add(new int[] {w.found, w.minute});
        return true;
    }

    private Walk walked(int shelf) {
        Walk w = begun();
        byte[] row = (byte[]) shelves[shelf];
        for (int i = 0; i + 1 < row.length; i += 2) if (!goOn(w, row[i], row[i + 1])) break;
        return w;
    }

    private int refusal(int shelf) {
        return shelves[shelf] == null ? -11 : shelves[shelf] instanceof byte[] ? 0 : -12;
    }

    private static boolean noShelf(int shelf) {
        return shelf < 0 || shelf > 5;
    }

    int round(int shelf, int place) {
        if (noShelf(shelf) || place < -3 || place >= spots.size()) return -1;
        if (refusal(shelf) < 0) return refusal(shelf);
        Walk w = walked(shelf);
        return place == -1 ? w.found : place == -2 ? w.minute : place == -3 ? w.twos.size() : w.shares[place];
    }

    int ifNot(int shelf, int what) {
        if (noShelf(shelf) || what < 0 || what > 1) return -1;
        if (refusal(shelf) < 0) return refusal(shelf);
        int[] shares = walked(shelf).shares;
        int most = Arrays.stream(shares).max().orElse(0);
        long all = Arrays.stream(shares).sum() + millionths(told[5]);
        if (what == 1) return all == 0 ? 0 : (int) (1000000L * most / all);
        if (most == 0) return -2;
        int p = 0;
        while (shares[p] != most) p++;
        return p;
    }

    int by(int shelf, int v) {
        if (noShelf(shelf) || v < 0 || v > 1000000) return -1;
        if (refusal(shelf) < 0) return refusal(shelf);
        if (v == 0) return 0;
        for (Minute one : walked(shelf).minutes) if (one.foundThen >= v) return one.minute + 1;
        return -2;
    }

    int next(int shelf, int n, int what) {
        if (noShelf(shelf) || n < 1 || n > 99 || what < 0 || what > 1) return -1;
        if (refusal(shelf) < 0) return refusal(shelf);
        int which = -2;
        long most = -2;
        for (int p = spots.size() - 1; p >= 0; p--) {
            Walk w = walked(shelf);
            int foundAhead = w.found, ahead = w.minute;
            if (!goOn(w, p, n)) continue;
            long growth = 1000L * (w.found - foundAhead) / (w.minute - ahead);
            if (growth >= most) {
                most = growth;
                which = p;
            }
        }
        return what == 0 ? which : (int) most;
    }

    int stay(int shelf, int v) {
        if (noShelf(shelf) || v < 0 || v > 999999) return -1;
        if (refusal(shelf) < 0) return refusal(shelf);
        Walk w = walked(shelf);
        if (w.at < 0) return -2;
        for (int i = 0; i < 99; i++) {
            int ahead = w.found;
            goOn(w, w.at, 1);
            if (w.found - ahead < v) return i;
        }
        return 99;
    }

    private void orders(List<Integer> ahead, List<Integer> rest, List<List<Integer>> all) {
        if (rest.isEmpty()) all.add(ahead);
        for (Integer p : rest) {
            List<Integer> one = new ArrayList<>(ahead), left = new ArrayList<>(rest);
            one.add(p);
            left.remove(p);
            orders(one, left, all);
        }
    }

    int best(int set, int n, int k) {
        if (set < 0 || set >> spots.size() != 0 || n < 1 || n > 99 || k < -1) return -1;
        List<Integer> some = new ArrayList<>();
        for (int p = 0; p < 8; p++) if ((set & 1 << p) != 0) some.add(p);
        if (k >= some.size()) return -2;
        if (some.size() > 6) return -5;
        List<List<Integer>> all = new ArrayList<>();
        orders(new ArrayList<>(), some, all);
        int most = -1;
        List<Integer> best = null;
        for (List<Integer> order : all) {
            Walk w = begun();
            // a listening that would be beyond 999 ends the round: all behind it would be later still
            for (int p : order) if (!goOn(w, p, n)) break;
            if (w.found > most) {
                most = w.found;
                best = order;
            }
        }
        return k == -1 ? most : best.get(k);
    }

    int giveUp(int shelf, int wp, int what) {
        if (noShelf(shelf) || wp < 0 || wp > 999999 || what < 0 || what > 1) return -1;
        if (refusal(shelf) < 0) return refusal(shelf);
        long most = 0;
        int behind = 0, i = 0;
        for (int[] two : walked(shelf).twos) {
            i++;
            long pence = (long) two[0] * (wp / 100) / 1000000 - (long) two[1] * (wp % 100);
            if (pence > most) {
                most = pence;
                behind = i;
            }
        }
        return what == 0 ? behind : (int) most;
    }

    private int yards(int xy, Spot s) {
        return Math.abs(xy % 100 - s.told[0]) + Math.abs(xy / 100 - s.told[1]);
    }

    int seen(int xy, int yards) {
        if (xy < 0 || xy > 9999 || yards < 0 || yards > 99) return -1;
        int bits = 0;
        for (int p = 0; p < spots.size(); p++) if (yards(xy, spots.get(p)) <= yards) bits += 1 << p;
        return bits;
    }

    int dead(int shelf) {
        if (noShelf(shelf)) return -1;
        if (refusal(shelf) < 0) return refusal(shelf);
        Walk w = walked(shelf);
        long all = Arrays.stream(w.shares).sum() + millionths(told[5]);
        return w.at < 0 || all == 0 ? -2 : (int) (12L * w.shares[w.at] / all);
    }

    // ---- buying, turns, grass

    private long one(int n, int uneven) {
        if (n == 0) return 0;
        long buy = Math.min(told[8], told[9]) * 1000L + two(n, uneven);
        return Math.min(1000L * uneven + memo(n - 1, uneven), buy);
    }

    private final Map<Long, Long> memory = new HashMap<>();

    private long memo(int n, int uneven) {
        long key = n * 100000L + uneven;
        if (!memory.containsKey(key)) memory.put(key, one(n, uneven));
        return memory.get(key);
    }

    private long two(int n, int uneven) {
        if (n == 0) return 0;
        return (told[10] * memo(n - 1, uneven) + (12 - told[10]) * two(n - 1, uneven)) / 12;
    }

    int buy(int n, int what) {
        if (n < 0 || n > 20 || what < 0 || what > 1) return -1;
        memory.clear();
        long costs = memo(n, told[11]);
        if (what == 0) return (int) costs;
        if (n == 0 || costs == 1000L * told[11] + memo(n - 1, told[11])) return 0;
        return told[8] <= told[9] ? 1 : 2;
    }

    int waits(int n) {
        if (n < 1 || n > 20) return -1;
        int was = told[11], greatest = -2;
        for (int uneven = 0; uneven <= 9999; uneven++) {
            told[11] = uneven;
            if (buy(n, 1) == 0) greatest = uneven;
        }
        told[11] = was;
        return greatest;
    }

    int strangers(int shelf, int what) {
        if (noShelf(shelf) || what < 0 || what > 2) return -1;
        if (refusal(shelf) < 0) return refusal(shelf);
        int over = 0, pairs = 0, lefts = 0, rights = 0;
        for (byte b : (byte[]) shelves[shelf]) {
            if (b == 0) lefts++;
            if (b == 1) rights++;
        }
        while (lefts > 0 && rights > 0) {
            lefts--;
            rights--;
            pairs++;
        }
        over = lefts + rights;
        return what == 0 ? pairs : what == 2 ? over : over == 0 ? -2 : lefts > 0 ? 0 : 1;
    }

    int worn(int n) {
        if (n < 0 || n > 9999) return -1;
        int[] fullAt = {0, 0};
        int heard = 0, ear = 0, wornSince = 0;
        for (int t = 0; t < n; t++) {
            if (t >= wornSince + told[12] && t == wornSince + told[12]) fullAt[ear] = t + told[13];
            if (t >= wornSince + told[12] && t >= fullAt[1 - ear]) {
                ear = 1 - ear;
                wornSince = t;
            }
            if (t < wornSince + told[12]) heard++;
        }
        return heard;
    }

    int grass(int xy, int what) {
        if (xy < 0 || xy > 9999 || what < 0 || what > 1) return -1;
        int nearest = -2;
        for (int p = spots.size() - 1; p >= 0; p--) {
            if (nearest < 0 || yards(xy, spots.get(p)) <= yards(xy, spots.get(nearest))) nearest = p;
        }
        return what == 0 || nearest < 0 ? nearest : millionths(spots.get(nearest).told[2]);
    }

    int drawn(int shelf, int seed, int n, int what) {
        if (noShelf(shelf) || n < 1 || n > 30 || what < 0 || what > 1) return -1;
        if (refusal(shelf) < 0) return refusal(shelf);
        Walk w = walked(shelf);
        List<Integer> lots = new ArrayList<>();
        for (int p = 0; p < spots.size(); p++) for (int i = 0; i < spots.get(p).told[2]; i++) lots.add(p);
        for (int i = 0; i < told[5]; i++) lots.add(-1);
        int z = seed, many = 0, together = 0;
        for (int loss = 0; loss < n; loss++) {
            z = z * 1103515245 + 12345;
            int place = lots.isEmpty() ? -1 : lots.get((z >>> 4) % lots.size());
            for (Minute one : w.minutes) {
                if (one.place != place) continue;
                z = z * 1103515245 + 12345;
                if ((z >>> 8) % 12 >= twelfths(place, one.ahead, one.minute)) continue;
                many++;
                together += one.minute;
                break;
            }
        }
        return what == 0 ? many : together;
    }

    // ---- in deed

    int go(int place) {
        if (place < 0 || place >= spots.size()) return -1;
        if (now + way(at, place) > 999) return -5;
        now += way(at, place);
        at = place;
        goings++;
        return now;
    }

    int listen(int n) {
        if (n < 1 || n > 99) return -1;
        if (at < 0 || now + n > 999) return -5;
        Spot s = spots.get(at);
        int ahead = s.share;
        for (int i = 0; i < n; i++) {
            s.share = s.share * (12 - twelfths(at, s.listened, now)) / 12;
            s.listened++;
            now++;
            minutes++;
        }
        found += ahead - s.share;
        return ahead - s.share;
    }

    int find(int place) {
        if (place < 0 || place >= spots.size()) return -1;
        int had = spots.get(place).share;
        for (Spot s : spots) s.share = 0;
        spots.get(place).share = 1000000;
        finds++;
        return had;
    }

    int again() {
        int all = 0;
        for (Spot s : spots) {
            s.share = millionths(s.told[2]);
            s.listened = 0;
            all += s.share;
        }
        now = 0;
        at = spots.isEmpty() ? -1 : 0;
        return all;
    }

    int led(int what) {
        int[] all = {now, goings, minutes, found, finds, at < 0 ? -2 : at};
        return what < 0 || what > 5 ? -1 : all[what];
    }

    int image() {
        image = new int[] {now, goings, minutes, found, finds, at};
        imageSpots = new int[spots.size()][];
        for (int p = 0; p < spots.size(); p++) imageSpots[p] = new int[] {spots.get(p).share, spots.get(p).listened};
        return now;
    }

    int back() {
        if (image == null) return -5;
        now = image[0];
        goings = image[1];
        minutes = image[2];
        found = image[3];
        finds = image[4];
        at = image[5];
        for (int p = 0; p < spots.size(); p++) {
            spots.get(p).share = p < imageSpots.length ? imageSpots[p][0] : 0;
            spots.get(p).listened = p < imageSpots.length ? imageSpots[p][1] : 0;
        }
        return now;
    }

    private int step(List<int[]> from, List<int[]> to, int which) {
        if (from.isEmpty()) return -5;
        int[] change = from.remove(from.size() - 1);
        to.add(change);
        where(change[0], change[1])[change[1]] = change[which];
        return from.size();
    }

    int undo() {
        return step(undos, redos, 2);
    }

    int redo() {
        return step(redos, undos, 3);
    }

    // ---- shelves (acts stand in ShelvesTest)

    int body(int kind) {
        if (kind < 0 || kind > 7) return -1;
        if (bodies.size() == 50) return -3;
        bodies.add(kind);
        return bodies.size() - 1;
    }

    int keep(int shelf, int body) {
        if (noShelf(shelf) || body < -1 || body >= bodies.size()) return -1;
        shelves[shelf] = body < 0 ? null : (Object) Integer.valueOf(body);
        return 1;
    }

    int row(int shelf, int sort, int n) {
        if (noShelf(shelf) || sort < 0 || sort > 4 || n > 60) return -1;
        if (n < 0) return -14;
        Object[] rows = {new byte[n], new short[n], new int[n], new long[n], new boolean[n]};
        shelves[shelf] = rows[sort];
        return 1;
    }

    private static int length(Object row) {
        return java.lang.reflect.Array.getLength(row);
    }

    int put(int shelf, int i, long v) {
        if (noShelf(shelf)) return -1;
        Object held = shelves[shelf];
        if (held == null) return -11;
        if (held instanceof Integer) return -12;
        if (i < 0 || i >= length(held)) return -13;
        if (held instanceof byte[]) ((byte[]) held)[i] = (byte) v;
        if (held instanceof short[]) ((short[]) held)[i] = (short) v;
        if (held instanceof int[]) ((int[]) held)[i] = (int) v;
        if (held instanceof long[]) ((long[]) held)[i] = v;
        if (held instanceof boolean[]) ((boolean[]) held)[i] = v != 0;
        return 1;
    }

    long element(int shelf, int i) {
        if (noShelf(shelf)) return Long.MIN_VALUE;
        Object held = shelves[shelf];
        if (held == null || held instanceof Integer || i < 0 || i >= length(held)) return Long.MIN_VALUE;
        if (held instanceof boolean[]) return ((boolean[]) held)[i] ? 1 : 0;
        return java.lang.reflect.Array.getLong(held, i);
    }

    int shift(int shelf, int i, int other, int j, int n) {
        if (noShelf(shelf) || noShelf(other)) return -1;
        Object from = shelves[shelf], to = shelves[other];
        if (from == null || to == null) return -11;
        if (from instanceof Integer || to instanceof Integer || from.getClass() != to.getClass()) return -12;
        try {
            System.arraycopy(from, i, to, j, n);
        } catch (IndexOutOfBoundsException e) {
            return -13;
        }
        return n;
    }

    int taken(int shelf, int k) {
        if (noShelf(shelf) || k < 0 || k > 7) return -1;
        if (shelves[shelf] == null) return -11;
        if (!(shelves[shelf] instanceof Integer)) return -12;
        int kind = bodies.get((Integer) shelves[shelf]);
        String[] paths = {"0", "01", "02", "023", "014", "0235", "06", "067"};
        return paths[kind].indexOf('0' + k) >= 0 ? kind : -12;
    }

    int count(int what) {
        int[] all = {spots.size(), tape.length(), undos.size(), bodies.size()};
        return what < 0 || what > 3 ? -1 : all[what];
    }
}
