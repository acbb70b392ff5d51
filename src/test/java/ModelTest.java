import java.util.Random;

/** Runs of 512 random calls: the program against Naive, answer by answer. */
public final class ModelTest {
    private static Random random;
    private static OneEarOfTwo ear;
    private static Naive naive;
    private static int run;

    public static void main(String[] args) {
        int runs = args.length > 0 ? Integer.parseInt(args[0]) : 300;
        for (run = 0; run < runs; run++) {
            random = new Random(run);
            ear = new OneEarOfTwo();
            naive = new Naive();
            int calls = 0;
            while (calls < 480) calls += ask();
        }
        texts(args.length > 0 ? 20 * runs : 6000);
        Checks.end("ModelTest");
    }

    private static void due(String call, long got, long want) {
        Checks.due("run " + run + ": " + call, got, want);
    }

    private static int in(int least, int most) {
        // now and then a number that lies just outside, or far
        int odd = random.nextInt(40);
        if (odd == 0) return least - 1;
        if (odd == 1) return most + 1;
        if (odd == 2 && random.nextInt(4) == 0) return random.nextInt();
        if (odd == 3) return most;
        if (odd == 4) return least;
        return least + random.nextInt(most - least + 1);
    }

    private static int spot() {
        return naive.spots.isEmpty() || random.nextInt(40) == 0 ? in(0, 7) : random.nextInt(naive.spots.size());
    }

    private static int shelf() {
        return random.nextInt(4) > 0 ? random.nextInt(2) : in(0, 5);
    }

    private static int either() {
        return random.nextInt(20) == 0 ? in(0, 3) : random.nextInt(2);
    }

    private static int ask() {
        switch (random.nextInt(16)) {
            case 0: return places();
            case 1: case 2: return mends();
            case 3: return laws();
            case 4: return rows();
            case 5: case 6: case 7: case 8: return rounds();
            case 9: case 10: return buying();
            case 11: case 12: case 13: return deeds();
            default: return shelves();
        }
    }

    private static int places() {
        int xy = random.nextInt(3) == 0 ? in(0, 9999) : random.nextInt(12) * 100 + random.nextInt(12), odds = in(0, 99);
        if (random.nextInt(10) > 0 && naive.spots.size() > 3) return 0;
        if (random.nextInt(3) > 0) {
            due("place(" + xy + ", " + odds + ")", ear.place(xy, odds), naive.place(xy, odds));
        } else {
            int shelf = shelf(), i = in(0, 10), n = in(1, 8);
            if (random.nextInt(3) > 0) n = 1 + random.nextInt(2);
            due("places(" + shelf + ", " + i + ", " + n + ")", ear.places(shelf, i, n), naive.places(shelf, i, n));
        }
        return 1;
    }

    private static int mends() {
        int[] most = {99, 99, 99, 9, 9, 99, 999, 99, 9999, 9999, 12, 9999, 99, 99};
        int what = in(0, 13), number = what < 5 ? spot() : random.nextInt(20) == 0 ? 1 : 0;
        int v = in(what < 0 || what > 13 ? 0 : most[what] == 99 && what > 5 ? 1 : 0, what < 0 || what > 13 ? 5 : most[what]);
        if (random.nextInt(3) == 0) v = in(1, 3);
        due("mend(" + number + ", " + what + ", " + v + ")", ear.mend(number, what, v), naive.mend(number, what, v));
        what = in(0, 15);
        number = what < 5 || what > 13 ? spot() : 0;
        due("of(" + number + ", " + what + ")", ear.of(number, what), naive.of(number, what));
        return 2;
    }

    private static int laws() {
        if (random.nextInt(6) > 0) {
            int place = spot(), km = in(0, 999999);
            due("hears(" + place + ", " + km + ")", ear.hears(place, km), naive.hears(place, km));
            return 1;
        }
        String text = random.nextBoolean() ? goodText() : spoilt(goodText());
        if (text.length() > 60) text = text.substring(0, 60);
        for (int i = 0; i < text.length(); i++) due("feed", ear.feed(text.charAt(i)), naive.feed(text.charAt(i)));
        due("law() of " + text, ear.law(), naive.law());
        return text.length() + 1;
    }

    private static String goodText() {
        StringBuilder text = new StringBuilder();
        int lines = 1 + random.nextInt(3);
        for (int i = 0; i < lines; i++) {
            if (i > 0) text.append(';');
            text.append(expression(0, 1));
            if (random.nextInt(3) > 0) text.append('?').append(expression(0, 1));
        }
        return text.toString();
    }

    private static String expression(int rank, int deep) {
        String[] signs = {"|", "&", "<=>", "+-", "*/%"};
        if (rank < 5) {
            String one = expression(rank + 1, deep);
            int more = random.nextInt(4) == 0 ? rank == 2 ? 1 : 1 + random.nextInt(2) : 0;
            for (int i = 0; i < more; i++) {
                one += signs[rank].charAt(random.nextInt(signs[rank].length())) + expression(rank + 1, deep);
            }
            return one;
        }
        int kind = random.nextInt(10);
        if (kind == 0 && deep <= 6) return "!" + expression(5, deep + 1);
        if (kind == 1 && deep <= 6) return "-" + expression(5, deep + 1);
        if (kind == 2 && deep <= 6) return "(" + expression(0, deep + 1) + ")";
        if (kind < 7) return "" + "hdkmcp".charAt(random.nextInt(6));
        return "" + random.nextInt(random.nextInt(5) == 0 ? 10000 : 14);
    }

    private static String spoilt(String text) {
        String signs = "hdkmcp0123456789()!-+*/%<=>&|?; x";
        StringBuilder some = new StringBuilder(text);
        for (int i = random.nextInt(3); i >= 0; i--) {
            int at = random.nextInt(some.length() + 1);
            char sign = signs.charAt(random.nextInt(signs.length()));
            int how = random.nextInt(4);
            if (how == 0 && at < some.length()) some.deleteCharAt(at);
            else if (how == 1 && at < some.length()) some.setCharAt(at, sign);
            else if (how == 2) some.insert(at, sign);
            else some.setLength(at);
        }
        return some.toString();
    }

    /** Texts alone, good and spoilt, up to 120 bytes, and what they give. */
    private static void texts(int many) {
        ear = new OneEarOfTwo();
        naive = new Naive();
        ear.place(0, 1);
        naive.place(0, 1);
        random = new Random(99);
        for (int i = 0; i < many; i++) {
            String text = i % 2 == 0 ? goodText() : spoilt(goodText());
            if (i % 7 == 0) text = text.replaceAll("[hdkmcp]", "(-!-(");
            if (text.length() > 120) text = text.substring(0, 120);
            for (int j = 0; j < text.length(); j++) {
                ear.feed(text.charAt(j));
                naive.feed(text.charAt(j));
            }
            due("law() of " + text, ear.law(), naive.law());
            int km = random.nextInt(1000000);
            due("hears(0, " + km + ") by " + text, ear.hears(0, km), naive.hears(0, km));
        }
    }

    private static int rows() {
        int shelf = random.nextInt(2), many = random.nextInt(4) == 0 ? 60 : random.nextInt(12);
        due("row", ear.row(shelf, 0, many), naive.row(shelf, 0, many));
        int most = random.nextInt(3) == 0 ? 99 : 6;
        int asked = 1;
        for (int i = 0; i < many && asked < 25; i++) {
            int at = random.nextInt(5) == 0 ? in(0, 59) : i;
            int v = at % 2 == 0 ? spot() : in(1, most);
            due("put(" + shelf + ", " + at + ", " + v + ")", ear.put(shelf, at, v), naive.put(shelf, at, v));
            asked++;
        }
        return asked;
    }

    private static int rounds() {
        int shelf = shelf(), what = either();
        switch (random.nextInt(9)) {
            case 0:
                int place = random.nextBoolean() ? -1 - random.nextInt(3) : in(-3, 7);
                due("round(" + shelf + ", " + place + ")", ear.round(shelf, place), naive.round(shelf, place));
                break;
            case 1: due("ifNot(" + shelf + ", " + what + ")", ear.ifNot(shelf, what), naive.ifNot(shelf, what)); break;
            case 2:
                int v = in(0, random.nextBoolean() ? 1000000 : 1000);
                due("by(" + shelf + ", " + v + ")", ear.by(shelf, v), naive.by(shelf, v));
                break;
            case 3:
                int n = in(1, random.nextBoolean() ? 99 : 5);
                due("next(" + shelf + ", " + n + ", " + what + ")", ear.next(shelf, n, what), naive.next(shelf, n, what));
                break;
            case 4:
                int least = in(0, random.nextBoolean() ? 999999 : 30);
                due("stay(" + shelf + ", " + least + ")", ear.stay(shelf, least), naive.stay(shelf, least));
                break;
            case 5: orders(); break;
            case 6:
                int wp = in(0, 999999);
                if (random.nextBoolean()) wp = wp / 100 * 100 + random.nextInt(4);
                due("giveUp(" + shelf + ", " + wp + ", " + what + ")", ear.giveUp(shelf, wp, what), naive.giveUp(shelf, wp, what));
                break;
            case 7:
                int xy = in(0, 9999), yards = in(0, 99);
                due("seen(" + xy + ", " + yards + ")", ear.seen(xy, yards), naive.seen(xy, yards));
                break;
            default: due("dead(" + shelf + ")", ear.dead(shelf), naive.dead(shelf)); break;
        }
        return 1;
    }

    private static void orders() {
        int size = naive.spots.size();
        int set = random.nextInt(30) == 0 ? in(0, 255) : random.nextInt(1 << size);
        int n = in(1, random.nextInt(4) == 0 ? 99 : 4), k = random.nextBoolean() ? -1 : in(-1, 7);
        // the plain way is slow by a long text: six places are asked for now and then alone
        if (Integer.bitCount(set) > 4 && Integer.bitCount(set) < 7 && random.nextInt(n > 9 ? 40 : 8) > 0) set &= 15;
        due("best(" + set + ", " + n + ", " + k + ")", ear.best(set, n, k), naive.best(set, n, k));
    }

    private static int buying() {
        int shelf = shelf(), what = either(), n = in(0, 20);
        switch (random.nextInt(6)) {
            case 0: due("buy(" + n + ", " + what + ")", ear.buy(n, what), naive.buy(n, what)); break;
            case 1:
                if (random.nextInt(8) == 0) due("waits(" + n + ")", ear.waits(n), naive.waits(n));
                break;
            case 2:
                what = in(0, 2);
                due("strangers(" + shelf + ", " + what + ")", ear.strangers(shelf, what), naive.strangers(shelf, what));
                break;
            case 3:
                int minutes = in(0, 9999);
                due("worn(" + minutes + ")", ear.worn(minutes), naive.worn(minutes));
                break;
            case 4:
                int xy = in(0, 9999);
                due("grass(" + xy + ", " + what + ")", ear.grass(xy, what), naive.grass(xy, what));
                break;
            default:
                int seed = random.nextInt(), many = in(1, 30);
                due("drawn(" + shelf + ", " + seed + ", " + many + ", " + what + ")",
                    ear.drawn(shelf, seed, many, what), naive.drawn(shelf, seed, many, what));
                break;
        }
        return 1;
    }

    private static int deeds() {
        int place = spot();
        switch (random.nextInt(14)) {
            case 0: case 1: case 2: due("go(" + place + ")", ear.go(place), naive.go(place)); break;
            case 3: case 4: case 5:
                int n = in(1, random.nextInt(3) == 0 ? 99 : 4);
                due("listen(" + n + ")", ear.listen(n), naive.listen(n));
                break;
            case 6: due("find(" + place + ")", ear.find(place), naive.find(place)); break;
            case 7: due("again()", ear.again(), naive.again()); break;
            case 8: due("image()", ear.image(), naive.image()); break;
            case 9: due("back()", ear.back(), naive.back()); break;
            case 10: case 11: due("undo()", ear.undo(), naive.undo()); break;
            case 12: due("redo()", ear.redo(), naive.redo()); break;
            default: break;
        }
        int what = in(0, 5);
        due("led(" + what + ")", ear.led(what), naive.led(what));
        return 2;
    }

    private static int shelves() {
        int shelf = in(0, 5), other = in(0, 5);
        switch (random.nextInt(9)) {
            case 0:
                int kind = in(0, 7);
                due("body(" + kind + ")", ear.body(kind), naive.body(kind));
                break;
            case 1:
                int body = in(-1, naive.bodies.size());
                due("keep(" + shelf + ", " + body + ")", ear.keep(shelf, body), naive.keep(shelf, body));
                break;
            case 2:
                int sort = in(0, 4), size = in(0, 60);
                due("row(" + shelf + ", " + sort + ", " + size + ")", ear.row(shelf, sort, size), naive.row(shelf, sort, size));
                break;
            case 3: case 4:
                int i = in(0, random.nextBoolean() ? 60 : 9);
                long v = random.nextBoolean() ? random.nextLong() : in(-3, 300);
                due("put(" + shelf + ", " + i + ", " + v + ")", ear.put(shelf, i, v), naive.put(shelf, i, v));
                due("element(" + shelf + ", " + i + ")", ear.element(shelf, i), naive.element(shelf, i));
                return 2;
            case 5: case 6:
                int from = in(0, 20), to = in(0, 20), n = in(0, 20);
                due("shift(" + shelf + ", " + from + ", " + other + ", " + to + ", " + n + ")",
                    ear.shift(shelf, from, other, to, n), naive.shift(shelf, from, other, to, n));
                break;
            case 7:
                int k = in(0, 7);
                due("taken(" + shelf + ", " + k + ")", ear.taken(shelf, k), naive.taken(shelf, k));
                break;
            default:
                int what = in(-1, 3);
                due("count(" + what + ")", ear.count(what == 4 ? 0 : what), naive.count(what == 4 ? 0 : what));
                break;
        }
        return 1;
    }
}
