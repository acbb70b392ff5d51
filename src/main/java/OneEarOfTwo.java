/**
 * One ear of the two: where one small white thing that is lost may lie, where to listen for it,
 * and what it costs to go without. ../shared/DOC.md says what each call answers; words in
 * capitals here are the terms of that document.
 */
public final class OneEarOfTwo {
    public static final int BAD = -1, NOT = -2, FULL = -3, STATE = -5, VOID = -2000000000;

    private static final int NOTHING_THERE = -11, OTHER_KIND = -12, NOT_THERE = -13, SIZE_BELOW_0 = -14;
    private static final int MOST_PLACES = 8, MOST_SHELVES = 6, MOST_ORDERED = 6;
    private static final int LAST_MINUTE = 999, MILLION = 1000000, TWELVE = 12;

    private static final int X = 0, Y = 1, ODDS = 2, HUSH = 3, DEEP = 4, GONE = 5, CURRENT = 6, PACE = 7;
    private static final int SINGLE = 8, PAIR = 9, LOSS = 10, UNEVEN = 11, WEAR = 12, FILL = 13;
    private static final int SHARE = 14, LISTENED = 15;

    private final Law text;
    private final Yard yard;
    private final Trip trip;
    private final Orders orders;
    private final Losses losses;
    private final Purse purse;
    private final Deeds deeds;
    private final Deeds picture;
    private boolean pictured;
    private final Changes changes;
    private final Acts acts;
    private final Shelf[] shelves;

    public OneEarOfTwo() {
        text = new Law();
        yard = new Yard(text);
        trip = new Trip(yard);
        orders = new Orders(yard);
        losses = new Losses(yard, trip);
        purse = new Purse(yard);
        deeds = new Deeds(yard);
        picture = new Deeds(yard);
        changes = new Changes(yard);
        acts = new Acts();
        shelves = new Shelf[MOST_SHELVES];
        for (int i = 0; i < MOST_SHELVES; i++) shelves[i] = new Shelf();
    }

    // ---- places

    public int place(int xy, int odds) {
        if (!isSpot(xy) || !Yard.isFit(ODDS, odds)) return BAD;
        if (yard.size >= MOST_PLACES) return FULL;
        return yard.addPlace(xy % 100, xy / 100, odds);
    }

    public int places(int shelf, int i, int n) {
        if (!isShelf(shelf) || n < 1 || n > MOST_PLACES) return BAD;
        Shelf from = shelves[shelf];
        if (from.holdsNothing()) return 0;
        if (!from.holdsBytes()) return OTHER_KIND;
        int came = 0;
        while (came < n && addThree(from, i + 3L * came)) came++;
        return came;
    }

    private boolean addThree(Shelf from, long i) {
        if (i < 0 || i + 3 > from.size || yard.size >= MOST_PLACES) return false;
        int first = (int) i;
        int x = (int) from.cell(first), y = (int) from.cell(first + 1), odds = (int) from.cell(first + 2);
        if (!Yard.isFit(X, x) || !Yard.isFit(Y, y) || !Yard.isFit(ODDS, odds)) return false;
        yard.addPlace(x, y, odds);
        return true;
    }

    public int mend(int number, int what, int v) {
        if (!yard.isNumber(number, what) || !Yard.isFit(what, v)) return BAD;
        int was = yard.told(number, what);
        // telling the same number is no CHANGE: what may be DONE AGAIN stays so
        if (was != v) {
            changes.add(number, what, was, v);
            yard.tell(number, what, v);
        }
        return was;
    }

    public int of(int number, int what) {
        if (what == SHARE || what == LISTENED) {
            if (!yard.has(number)) return BAD;
            return what == SHARE ? deeds.shares[number] : deeds.listened[number];
        }
        return yard.isNumber(number, what) ? yard.told(number, what) : BAD;
    }

    public int feed(int letter) {
        if (letter < 0 || letter > 255) return BAD;
        return text.takeByte(letter) ? text.fed : FULL;
    }

    public int law() {
        return text.takeTape();
    }

    public int hears(int place, int km) {
        if (!yard.has(place) || km < 0 || km >= MILLION) return BAD;
        return yard.twelfths(place, km / 1000, km % 1000);
    }

    // ---- rounds in thought (a ROUND on a SHELF; BAD, -11, -12 (no ROW of bytes))

    public int round(int shelf, int place) {
        if (!isShelf(shelf) || place < -3 || place >= yard.size) return BAD;
        int refusal = trip.follow(shelves[shelf]);
        if (refusal < 0) return refusal;
        if (place >= 0) return trip.shares[place];
        if (place == -1) return trip.found;
        return place == -2 ? trip.minute : trip.twos;
    }

    public int ifNot(int shelf, int what) {
        if (!isShelf(shelf) || !isEither(what)) return BAD;
        int refusal = trip.follow(shelves[shelf]);
        if (refusal < 0) return refusal;
        int likeliest = trip.likeliest();
        if (what == 0) return likeliest;
        long left = trip.allLeft();
        if (likeliest < 0 || left <= 0) return 0;
        return (int) ((long) MILLION * trip.shares[likeliest] / left);
    }

    public int by(int shelf, int v) {
        if (!isShelf(shelf) || v < 0 || v > MILLION) return BAD;
        trip.markFound(v);
        int refusal = trip.follow(shelves[shelf]);
        return refusal < 0 ? refusal : trip.markedAt;
    }

    public int next(int shelf, int n, int what) {
        if (!isShelf(shelf) || !isMinutes(n) || !isEither(what)) return BAD;
        int refusal = trip.follow(shelves[shelf]);
        if (refusal < 0) return refusal;
        int most = NOT, where = NOT;
        for (int p = 0; p < yard.size; p++) {
            int growth = trip.growthByMinutes(p, n);
            if (growth > most) {
                most = growth;
                where = p;
            }
        }
        return what == 0 ? where : most;
    }

    public int stay(int shelf, int v) {
        if (!isShelf(shelf) || v < 0 || v >= MILLION) return BAD;
        int refusal = trip.follow(shelves[shelf]);
        if (refusal < 0) return refusal;
        return trip.at < 0 ? NOT : trip.minutesWorth(v);
    }

    public int best(int set, int n, int k) {
        if (set < 0 || set >= 1 << yard.size || !isMinutes(n) || k < -1) return BAD;
        int many = Integer.bitCount(set);
        if (k >= many) return NOT;
        if (many > MOST_ORDERED) return STATE;
        orders.search(set, n);
        return k < 0 ? orders.mostFound : orders.placeAt(k);
    }

    public int giveUp(int shelf, int wp, int what) {
        if (!isShelf(shelf) || wp < 0 || wp >= MILLION || !isEither(what)) return BAD;
        int refusal = trip.follow(shelves[shelf]);
        if (refusal < 0) return refusal;
        int behind = 0, most = 0;
        for (int t = 0; t < trip.twos; t++) {
            int worth = (int) ((long) trip.foundBehind[t] * (wp / 100) / MILLION);
            int gain = worth - (trip.starts[t] + trip.lengths[t]) * (wp % 100);
            if (gain > most) {
                most = gain;
                behind = t + 1;
            }
        }
        return what == 0 ? behind : most;
    }

    public int seen(int xy, int yards) {
        if (!isSpot(xy) || yards < 0 || yards > 99) return BAD;
        int reached = 0;
        for (int p = 0; p < yard.size; p++) {
            if (yard.yardsFrom(xy % 100, xy / 100, p) <= yards) reached |= 1 << p;
        }
        return reached;
    }

    public int dead(int shelf) {
        if (!isShelf(shelf)) return BAD;
        int refusal = trip.follow(shelves[shelf]);
        if (refusal < 0) return refusal;
        int left = trip.allLeft();
        if (trip.at < 0 || left <= 0) return NOT;
        return TWELVE * trip.shares[trip.at] / left;
    }

    // ---- buying, turns, grass

    public int buy(int n, int what) {
        if (n < 0 || n > 20 || !isEither(what)) return BAD;
        purse.plan(n, yard.told(0, UNEVEN));
        return what == 0 ? (int) purse.cost : purse.choice;
    }

    public int waits(int n) {
        if (n < 1 || n > 20) return BAD;
        return purse.greatestUneven(n);
    }

    public int strangers(int shelf, int what) {
        if (!isShelf(shelf) || what < 0 || what > 2) return BAD;
        int refusal = shelves[shelf].bytesRefusal();
        if (refusal < 0) return refusal;
        int lefts = shelves[shelf].cellsWith(0), rights = shelves[shelf].cellsWith(1);
        if (what == 0) return Math.min(lefts, rights);
        if (what == 2) return Math.abs(lefts - rights);
        if (lefts == rights) return NOT;
        return lefts > rights ? 0 : 1;
    }

    public int worn(int n) {
        if (n < 0 || n > 9999) return BAD;
        int wear = yard.told(0, WEAR), fill = yard.told(0, FILL);
        int heard = 0, start = 0, otherIsFull = 0;
        for (int turn = 0; turn < 10000 && start < n; turn++) {
            int empty = start + wear;
            heard += Math.min(wear, n - start);
            start = Math.max(empty, otherIsFull);
            otherIsFull = empty + fill;
        }
        return heard;
    }

    public int grass(int xy, int what) {
        if (!isSpot(xy) || !isEither(what)) return BAD;
        int nearest = NOT, least = 0;
        for (int p = 0; p < yard.size; p++) {
            int yards = yard.yardsFrom(xy % 100, xy / 100, p);
            if (nearest < 0 || yards < least) {
                nearest = p;
                least = yards;
            }
        }
        return what == 0 || nearest < 0 ? nearest : yard.shareByOdds(nearest);
    }

    public int drawn(int shelf, int seed, int n, int what) {
        if (!isShelf(shelf) || n < 1 || n > 30 || !isEither(what)) return BAD;
        int refusal = trip.follow(shelves[shelf]);
        if (refusal < 0) return refusal;
        losses.drawAll(seed, n);
        return what == 0 ? losses.found : losses.minutes;
    }

    // ---- in deed

    public int go(int place) {
        if (!yard.has(place)) return BAD;
        int then = deeds.now + yard.wayBetween(deeds.at, place);
        if (then > LAST_MINUTE) return STATE;
        deeds.goTo(place, then);
        return then;
    }

    public int listen(int n) {
        if (!isMinutes(n)) return BAD;
        if (deeds.at < 0 || deeds.now + n > LAST_MINUTE) return STATE;
        return deeds.listenFor(n);
    }

    public int find(int place) {
        return yard.has(place) ? deeds.findIn(place) : BAD;
    }

    public int again() {
        return deeds.beginAnew();
    }

    public int led(int what) {
        switch (what) {
            case 0: return deeds.now;
            case 1: return deeds.goings;
            case 2: return deeds.minutes;
            case 3: return deeds.found;
            case 4: return deeds.finds;
            case 5: return deeds.at < 0 ? NOT : deeds.at;
            default: return BAD;
        }
    }

    public int image() {
        picture.copyFrom(deeds);
        pictured = true;
        return deeds.now;
    }

    public int back() {
        if (!pictured) return STATE;
        deeds.copyFrom(picture);
        return deeds.now;
    }

    public int undo() {
        return changes.takeBack() ? changes.done : STATE;
    }

    public int redo() {
        return changes.doAgain() ? changes.kept - changes.done : STATE;
    }

    // ---- acts, shelves

    public int body(int kind) {
        if (!Acts.isKind(kind)) return BAD;
        return acts.addBody(kind);
    }

    public int act(int body, int act, int x) {
        return acts.start(body, act, x);
    }

    public int trace(int i) {
        return acts.traced(i);
    }

    public int keep(int shelf, int body) {
        if (!isShelf(shelf) || body != -1 && !acts.has(body)) return BAD;
        if (body == -1) shelves[shelf].clear();
        else shelves[shelf].holdBody(body);
        return 1;
    }

    public int row(int shelf, int sort, int n) {
        if (!isShelf(shelf) || !Shelf.isSort(sort) || n > Shelf.MOST_CELLS) return BAD;
        if (n < 0) return SIZE_BELOW_0;
        shelves[shelf].holdRow(sort, n);
        return 1;
    }

    public int put(int shelf, int i, long v) {
        if (!isShelf(shelf)) return BAD;
        int refusal = shelves[shelf].refusalOf(i);
        if (refusal < 0) return refusal;
        shelves[shelf].setCell(i, v);
        return 1;
    }

    public long element(int shelf, int i) {
        if (!isShelf(shelf) || shelves[shelf].refusalOf(i) < 0) return Long.MIN_VALUE;
        return shelves[shelf].cell(i);
    }

    public int shift(int shelf, int i, int other, int j, int n) {
        if (!isShelf(shelf) || !isShelf(other)) return BAD;
        Shelf from = shelves[shelf], to = shelves[other];
        if (from.holdsNothing() || to.holdsNothing()) return NOTHING_THERE;
        if (!from.isRowLike(to)) return OTHER_KIND;
        if (n < 0 || !from.spans(i, n) || !to.spans(j, n)) return NOT_THERE;
        System.arraycopy(from.cells, i, to.cells, j, n);
        return n;
    }

    public int taken(int shelf, int k) {
        if (!isShelf(shelf) || !Acts.isKind(k)) return BAD;
        Shelf from = shelves[shelf];
        if (from.holdsNothing()) return NOTHING_THERE;
        if (!from.holdsBody()) return OTHER_KIND;
        int kind = acts.kindOf(from.body);
        return Acts.isUnder(kind, k) ? kind : OTHER_KIND;
    }

    public int count(int what) {
        switch (what) {
            case 0: return yard.size;
            case 1: return text.fed;
            case 2: return changes.done;
            case 3: return acts.bodies;
            case 4: return acts.ran;
            default: return BAD;
        }
    }

    private static boolean isShelf(int shelf) {
        return shelf >= 0 && shelf < MOST_SHELVES;
    }

    private static boolean isSpot(int xy) {
        return xy >= 0 && xy < 10000;
    }

    private static boolean isMinutes(int n) {
        return n >= 1 && n <= 99;
    }

    private static boolean isEither(int what) {
        return what == 0 || what == 1;
    }

    /** THE TAPE, and THE LAW as postfix code: a text is read once and worked out many times. */
    private static final class Law {
        private static final int MOST_BYTES = 120, MOST_OPEN = 6, MOST_DIGITS = 4;
        // each byte gives one code at most, and the end of the text gives one
        private static final int MOST_CODES = MOST_BYTES + 1;
        private static final int NUMBER = '0', NEGATED = '_', LINE_END = ';';
        private static final int COMPARED = 2, LAST_RANK = 4;

        private final int[] tape = new int[MOST_BYTES];
        private int fed;
        private int at;
        private int[] signs = new int[MOST_CODES];
        private int[] values = new int[MOST_CODES];
        private int codes;
        // a text with a FAULT must leave THE LAW as it is, so it is read into rows of its own
        private int[] draftSigns = new int[MOST_CODES];
        private int[] draftValues = new int[MOST_CODES];
        private int drafted;
        private final int[] stack = new int[MOST_CODES];
        private int top;
        private int h, d, k, m, c, p;

        boolean takeByte(int letter) {
            if (fed >= MOST_BYTES) return false;
            tape[fed] = letter;
            fed++;
            return true;
        }

        int takeTape() {
            boolean whole = readText();
            if (whole) becomeLaw();
            fed = 0;
            return whole ? 1 : -100 - at;
        }

        private void becomeLaw() {
            int[] oldSigns = signs, oldValues = values;
            signs = draftSigns;
            values = draftValues;
            codes = drafted;
            draftSigns = oldSigns;
            draftValues = oldValues;
        }

        // The readers stop where the text fails: then at is the FAULT.

        private boolean readText() {
            at = 0;
            drafted = 0;
            for (int lines = 0; lines <= MOST_BYTES; lines++) {
                if (!readLine()) return false;
                addCode(LINE_END, 0);
                if (at >= fed) return true;
                if (here() != ';') return false;
                at++;
            }
            return false;
        }

        private boolean readLine() {
            if (!readChain(0, 0)) return false;
            if (here() != '?') return true;
            at++;
            addCode('?', 0);
            return readChain(0, 0);
        }

        /** An E (rank 0), A (1), B (2), S (3), P (4) inside so many open ( ! -. */
        private boolean readChain(int rank, int open) {
            if (rank > LAST_RANK) return readOperand(open);
            if (!readChain(rank + 1, open)) return false;
            int most = rank == COMPARED ? 1 : MOST_BYTES;
            for (int i = 0; i < most && rankOf(here()) == rank; i++) {
                int sign = here();
                at++;
                if (!readChain(rank + 1, open)) return false;
                addCode(sign, 0);
            }
            return true;
        }

        private boolean readOperand(int open) {
            int sign = here();
            if (isDigit(sign)) {
                readNumber();
                return true;
            }
            if (isName(sign)) {
                at++;
                addCode(sign, 0);
                return true;
            }
            if (sign != '(' && sign != '!' && sign != '-' || open >= MOST_OPEN) return false;
            at++;
            if (sign == '(') {
                if (!readChain(0, open + 1) || here() != ')') return false;
                at++;
                return true;
            }
            if (!readOperand(open + 1)) return false;
            addCode(sign == '-' ? NEGATED : sign, 0);
            return true;
        }

        private void readNumber() {
            int number = 0;
            for (int i = 0; i < MOST_DIGITS && isDigit(here()); i++) {
                number = number * 10 + here() - '0';
                at++;
            }
            addCode(NUMBER, number);
        }

        private int here() {
            return at < fed ? tape[at] : -1;
        }

        private void addCode(int sign, int value) {
            if (drafted >= MOST_CODES) return;
            draftSigns[drafted] = sign;
            draftValues[drafted] = value;
            drafted++;
        }

        private static boolean isDigit(int sign) {
            return sign >= '0' && sign <= '9';
        }

        private static boolean isName(int sign) {
            return sign == 'h' || sign == 'd' || sign == 'k' || sign == 'm' || sign == 'c' || sign == 'p';
        }

        private static int rankOf(int sign) {
            switch (sign) {
                case '|': return 0;
                case '&': return 1;
                case '<': case '=': case '>': return COMPARED;
                case '+': case '-': return 3;
                case '*': case '/': case '%': return LAST_RANK;
                default: return -1;
            }
        }

        /** What THE LAW gives, not yet held within 0 .. 12. */
        int work(int hush, int deep, int ahead, int minute, int current, int place) {
            if (codes == 0) return withoutText(hush, deep, current);
            h = hush;
            d = deep;
            k = ahead;
            m = minute;
            c = current;
            p = place;
            top = 0;
            boolean passed = false;
            for (int i = 0; i < codes; i++) {
                int sign = signs[i];
                if (passed) passed = sign != LINE_END;
                else if (sign == LINE_END) return pop();
                else if (sign == '?') passed = pop() == 0;
                else runCode(sign, values[i]);
            }
            return 0;
        }

        private static int withoutText(int hush, int deep, int current) {
            if (current > 0) return hush - deep;
            return deep == 0 ? 1 : 0;
        }

        private void runCode(int sign, int value) {
            switch (sign) {
                case NUMBER: push(value); break;
                case 'h': push(h); break;
                case 'd': push(d); break;
                case 'k': push(k); break;
                case 'm': push(m); break;
                case 'c': push(c); break;
                case 'p': push(p); break;
                case '!': push(pop() == 0 ? 1 : 0); break;
                case NEGATED: push(-pop()); break;
                default:
                    int second = pop();
                    int first = pop();
                    push(joined(sign, first, second));
                    break;
            }
        }

        private static int joined(int sign, int a, int b) {
            switch (sign) {
                case '|': return a != 0 || b != 0 ? 1 : 0;
                case '&': return a != 0 && b != 0 ? 1 : 0;
                case '<': return a < b ? 1 : 0;
                case '=': return a == b ? 1 : 0;
                case '>': return a > b ? 1 : 0;
                case '+': return a + b;
                case '-': return a - b;
                case '*': return a * b;
                case '/': return b == 0 ? 0 : a / b;
                case '%': return b == 0 ? 0 : a % b;
                default: return 0;
            }
        }

        private void push(int value) {
            if (top >= MOST_CODES) return;
            stack[top] = value;
            top++;
        }

        private int pop() {
            if (top <= 0) return 0;
            top--;
            return stack[top];
        }
    }

    /** The PLACES, and all numbers of mend(). */
    private static final class Yard {
        private static final int OF_A_PLACE = 5, NUMBERS = 14, BEHIND_PLACES = MOST_PLACES * OF_A_PLACE;
        private static final int[] LEAST = {0, 0, 0, 0, 0, 0, 0, 1, 0, 0, 0, 0, 1, 1};
        private static final int[] MOST = {99, 99, 99, 9, 9, 99, 999, 99, 9999, 9999, 12, 9999, 99, 99};
        private static final int[] AT_FIRST = {0, 0, 0, 5, 0, 0, 180, 20, 60, 90, 3, 20, 60, 20};

        private final Law text;
        private final int[] numbers = new int[BEHIND_PLACES + NUMBERS];
        private int size;

        Yard(Law text) {
            this.text = text;
            for (int what = OF_A_PLACE; what < NUMBERS; what++) numbers[BEHIND_PLACES + what] = AT_FIRST[what];
        }

        static boolean isFit(int what, int v) {
            return what >= 0 && what < NUMBERS && v >= LEAST[what] && v <= MOST[what];
        }

        boolean has(int place) {
            return place >= 0 && place < size;
        }

        boolean isNumber(int number, int what) {
            return slot(number, what) >= 0;
        }

        private int slot(int number, int what) {
            if (what < 0 || what >= NUMBERS) return -1;
            if (what < OF_A_PLACE) return has(number) ? number * OF_A_PLACE + what : -1;
            return number == 0 ? BEHIND_PLACES + what : -1;
        }

        int told(int number, int what) {
            int slot = slot(number, what);
            return slot < 0 ? 0 : numbers[slot];
        }

        void tell(int number, int what, int v) {
            int slot = slot(number, what);
            if (slot >= 0) numbers[slot] = v;
        }

        int addPlace(int x, int y, int odds) {
            int added = size;
            size++;
            tell(added, X, x);
            tell(added, Y, y);
            tell(added, ODDS, odds);
            tell(added, HUSH, AT_FIRST[HUSH]);
            tell(added, DEEP, AT_FIRST[DEEP]);
            return added;
        }

        int yardsFrom(int x, int y, int place) {
            return Math.abs(x - told(place, X)) + Math.abs(y - told(place, Y));
        }

        /** Minutes of the way; from no PLACE one goes from PLACE 0's X, Y. */
        int wayBetween(int from, int to) {
            int start = Math.max(0, from);
            int yards = yardsFrom(told(start, X), told(start, Y), to);
            int pace = Math.max(1, told(0, PACE));
            return (yards + pace - 1) / pace;
        }

        int allOdds() {
            int all = told(0, GONE);
            for (int p = 0; p < size; p++) all += told(p, ODDS);
            return all;
        }

        int shareByOdds(int place) {
            int all = allOdds();
            return all <= 0 ? 0 : MILLION * told(place, ODDS) / all;
        }

        int shareOfGone() {
            int all = allOdds();
            return all <= 0 ? 0 : MILLION * told(0, GONE) / all;
        }

        int twelfths(int place, int ahead, int minute) {
            int current = Math.max(0, told(0, CURRENT) - minute);
            int given = text.work(told(place, HUSH), told(place, DEEP), ahead, minute, current, place);
            return Math.max(0, Math.min(TWELVE, given));
        }

        /** What n minutes' listening leaves of a SHARE. */
        int leftBehind(int n, int share, int place, int ahead, int minute) {
            int left = share;
            // nothing can go of nothing: THE LAW need not be asked any more then
            for (int i = 0; i < n && left > 0; i++) {
                left = left * (TWELVE - twelfths(place, ahead + i, minute + i)) / TWELVE;
            }
            return left;
        }
    }

    /** A ROUND gone in thought, and what there is behind it. */
    private static final class Trip {
        private static final int MOST_TWOS = 30;

        private final Yard yard;
        private final int[] shares = new int[MOST_PLACES];
        private final int[] listened = new int[MOST_PLACES];
        // of each of the twos that count
        private final int[] stops = new int[MOST_TWOS];
        private final int[] starts = new int[MOST_TWOS];
        private final int[] lengths = new int[MOST_TWOS];
        private final int[] ahead = new int[MOST_TWOS];
        private final int[] foundBehind = new int[MOST_TWOS];
        private int twos;
        private int found;
        private int minute;
        private int at;
        private int mark;
        private int markedAt;

        Trip(Yard yard) {
            this.yard = yard;
        }

        /** The next ROUND followed tells at which minute FOUND comes to v. */
        void markFound(int v) {
            mark = v;
        }

        /** 0, or why there is no ROUND on the SHELF. */
        int follow(Shelf round) {
            int refusal = round.bytesRefusal();
            if (refusal < 0) return refusal;
            begin();
            boolean goesOn = true;
            for (int i = 0; i + 1 < round.size && goesOn; i += 2) {
                goesOn = goOnTo((int) round.cell(i), (int) round.cell(i + 1));
            }
            return 0;
        }

        private void begin() {
            for (int p = 0; p < MOST_PLACES; p++) {
                shares[p] = yard.has(p) ? yard.shareByOdds(p) : 0;
                listened[p] = 0;
            }
            twos = 0;
            found = 0;
            minute = 0;
            at = -1;
            markedAt = mark <= 0 ? 0 : NOT;
        }

        private boolean goOnTo(int place, int n) {
            if (!yard.has(place) || !isMinutes(n) || twos >= MOST_TWOS) return false;
            int start = minute + yard.wayBetween(at, place);
            if (start + n > LAST_MINUTE) return false;
            stops[twos] = place;
            starts[twos] = start;
            lengths[twos] = n;
            ahead[twos] = listened[place];
            at = place;
            minute = start;
            for (int i = 0; i < n; i++) {
                int left = yard.leftBehind(1, shares[place], place, listened[place], minute);
                found += shares[place] - left;
                shares[place] = left;
                listened[place]++;
                minute++;
                if (markedAt < 0 && found >= mark) markedAt = minute;
            }
            foundBehind[twos] = found;
            twos++;
            return true;
        }

        int likeliest() {
            int where = NOT, most = 0;
            for (int p = 0; p < MOST_PLACES; p++) {
                if (shares[p] > most) {
                    most = shares[p];
                    where = p;
                }
            }
            return where;
        }

        /** What is left of all PLACES, and GONE's share. */
        int allLeft() {
            int all = yard.shareOfGone();
            for (int p = 0; p < MOST_PLACES; p++) all += shares[p];
            return all;
        }

        /** NOT: the listening would be beyond the last minute. */
        int growthByMinutes(int place, int n) {
            int way = yard.wayBetween(at, place);
            int start = minute + way, minutes = way + n;
            if (start + n > LAST_MINUTE || minutes <= 0) return NOT;
            int left = yard.leftBehind(n, shares[place], place, listened[place], start);
            return 1000 * (shares[place] - left) / minutes;
        }

        int minutesWorth(int v) {
            int share = shares[at];
            for (int i = 0; i < 99; i++) {
                int begins = minute + i;
                int left = begins >= LAST_MINUTE ? share : yard.leftBehind(1, share, at, listened[at] + i, begins);
                if (share - left < v) return i;
                share = left;
            }
            return 99;
        }
    }

    /** The BEST ROUND of some PLACES, by trying all orders. */
    private static final class Orders {
        private final Yard yard;
        private final int[] order = new int[MOST_ORDERED];
        private final int[] bestOrder = new int[MOST_ORDERED];
        private int minutesEach;
        private int mostFound;

        Orders(Yard yard) {
            this.yard = yard;
        }

        void search(int set, int n) {
            minutesEach = n;
            mostFound = -1;
            tryFrom(0, set, 0, 0, 0);
        }

        int placeAt(int k) {
            return k >= 0 && k < MOST_ORDERED ? bestOrder[k] : NOT;
        }

        private void tryFrom(int depth, int set, int from, int minute, int found) {
            if (set == 0) {
                keepIfBetter(found);
                return;
            }
            if (depth >= MOST_ORDERED) return;
            for (int p = 0; p < MOST_PLACES; p++) {
                if ((set >> p & 1) == 0) continue;
                int end = minute + yard.wayBetween(from, p) + minutesEach;
                int share = yard.shareByOdds(p), left = share;
                if (end <= LAST_MINUTE) left = yard.leftBehind(minutesEach, share, p, 0, end - minutesEach);
                order[depth] = p;
                tryFrom(depth + 1, set & ~(1 << p), p, end, found + share - left);
            }
        }

        private void keepIfBetter(int found) {
            // orders come the first by numbers first, so a like one never takes its place
            if (found <= mostFound) return;
            mostFound = found;
            System.arraycopy(order, 0, bestOrder, 0, MOST_ORDERED);
        }
    }

    /** Losses DRAWN by a SEED, looked for by the ROUND that the trip followed last. */
    private static final class Losses {
        private final Yard yard;
        private final Trip trip;
        private int z;
        private int found;
        private int minutes;

        Losses(Yard yard, Trip trip) {
            this.yard = yard;
            this.trip = trip;
        }

        void drawAll(int seed, int n) {
            z = seed;
            found = 0;
            minutes = 0;
            for (int i = 0; i < n; i++) seek(drawPlace());
        }

        private void drawOn() {
            z = z * 1103515245 + 12345;
        }

        private int drawPlace() {
            drawOn();
            int all = yard.allOdds();
            if (all <= 0) return NOT;
            int rest = (z >>> 4) % all;
            for (int p = 0; p < yard.size; p++) {
                int odds = yard.told(p, ODDS);
                if (rest < odds) return p;
                rest -= odds;
            }
            return NOT;
        }

        private void seek(int place) {
            boolean isFound = false;
            for (int t = 0; t < trip.twos && !isFound; t++) {
                if (trip.stops[t] == place) isFound = listenThrough(t);
            }
        }

        private boolean listenThrough(int two) {
            for (int i = 0; i < trip.lengths[two]; i++) {
                int minute = trip.starts[two] + i;
                drawOn();
                if ((z >>> 8) % TWELVE < yard.twelfths(trip.stops[two], trip.ahead[two] + i, minute)) {
                    found++;
                    minutes += minute;
                    return true;
                }
            }
            return false;
        }
    }

    /** BUYING: planned from the last year to the first. */
    private static final class Purse {
        private static final int MOST_UNEVEN = 9999;

        private final Yard yard;
        private long cost;
        private int choice;

        Purse(Yard yard) {
            this.yard = yard;
        }

        void plan(int years, int uneven) {
            long single = 1000L * yard.told(0, SINGLE), pair = 1000L * yard.told(0, PAIR);
            long loss = yard.told(0, LOSS), withTwo = 0;
            cost = 0;
            choice = 0;
            for (int year = 0; year < years; year++) {
                withTwo = (loss * cost + (TWELVE - loss) * withTwo) / TWELVE;
                chooseLeast(1000L * uneven + cost, single + withTwo, pair + withTwo);
            }
        }

        private void chooseLeast(long goOn, long single, long pair) {
            cost = goOn;
            choice = 0;
            if (single < cost) {
                cost = single;
                choice = 1;
            }
            if (pair < cost) {
                cost = pair;
                choice = 2;
            }
        }

        /**
         * Halving finds it: a penny of UNEVEN more makes going on dearer by a thousand against
         * buying, and the cuts of twenty years give back some tens at most.
         */
        int greatestUneven(int years) {
            if (!isGoingOnBest(years, 0)) return NOT;
            int least = 0, most = MOST_UNEVEN;
            for (int i = 0; i < 20 && least < most; i++) {
                int middle = (least + most + 1) / 2;
                if (isGoingOnBest(years, middle)) least = middle;
                else most = middle - 1;
            }
            return least;
        }

        private boolean isGoingOnBest(int years, int uneven) {
            plan(years, uneven);
            return choice == 0;
        }
    }

    /** What was done IN DEED. */
    private static final class Deeds {
        private final Yard yard;
        private final int[] shares = new int[MOST_PLACES];
        private final int[] listened = new int[MOST_PLACES];
        private int now;
        private int at = -1;
        private int goings;
        private int minutes;
        private int found;
        private int finds;

        Deeds(Yard yard) {
            this.yard = yard;
        }

        void goTo(int place, int then) {
            at = place;
            now = then;
            goings++;
        }

        int listenFor(int n) {
            if (!yard.has(at)) return 0;
            int left = yard.leftBehind(n, shares[at], at, listened[at], now);
            int gone = shares[at] - left;
            shares[at] = left;
            listened[at] += n;
            now += n;
            minutes += n;
            found += gone;
            return gone;
        }

        int findIn(int place) {
            if (!yard.has(place)) return BAD;
            int had = shares[place];
            for (int p = 0; p < MOST_PLACES; p++) shares[p] = 0;
            shares[place] = MILLION;
            finds++;
            return had;
        }

        int beginAnew() {
            int all = 0;
            for (int p = 0; p < MOST_PLACES; p++) {
                shares[p] = yard.has(p) ? yard.shareByOdds(p) : 0;
                listened[p] = 0;
                all += shares[p];
            }
            now = 0;
            at = yard.has(0) ? 0 : -1;
            return all;
        }

        void copyFrom(Deeds other) {
            System.arraycopy(other.shares, 0, shares, 0, MOST_PLACES);
            System.arraycopy(other.listened, 0, listened, 0, MOST_PLACES);
            now = other.now;
            at = other.at;
            goings = other.goings;
            minutes = other.minutes;
            found = other.found;
            finds = other.finds;
        }
    }

    /** CHANGES of the yard's numbers: the first done ones are in force, those behind may be DONE AGAIN. */
    private static final class Changes {
        private static final int MOST_KEPT = 40;

        private final Yard yard;
        private final int[] numbers = new int[MOST_KEPT];
        private final int[] whats = new int[MOST_KEPT];
        private final int[] before = new int[MOST_KEPT];
        private final int[] after = new int[MOST_KEPT];
        private int done;
        private int kept;

        Changes(Yard yard) {
            this.yard = yard;
        }

        void add(int number, int what, int was, int becomes) {
            if (done >= MOST_KEPT) forgetOldest();
            numbers[done] = number;
            whats[done] = what;
            before[done] = was;
            after[done] = becomes;
            done++;
            kept = done;
        }

        private void forgetOldest() {
            done = MOST_KEPT - 1;
            System.arraycopy(numbers, 1, numbers, 0, done);
            System.arraycopy(whats, 1, whats, 0, done);
            System.arraycopy(before, 1, before, 0, done);
            System.arraycopy(after, 1, after, 0, done);
        }

        boolean takeBack() {
            if (done <= 0) return false;
            done--;
            yard.tell(numbers[done], whats[done], before[done]);
            return true;
        }

        boolean doAgain() {
            if (done >= kept) return false;
            yard.tell(numbers[done], whats[done], after[done]);
            done++;
            return true;
        }
    }

    /** BODIES, their ACTS, and THE TRACE. */
    private static final class Acts {
        private static final int MOST_BODIES = 50, MOST_TRACED = 24, MOST_DEEP = 40;
        private static final int BEEP = 0, KINDS = 8, ACTS = 4;
        private static final int LIES = 0, HEARS = 1, WAITS = 2, TELLS = 3;
        // the KIND above each KIND; above BEEP there is none
        private static final int[] ABOVE = {-1, 0, 0, 2, 1, 3, 0, 6};
        // by KIND, then by ACT: the body that the KIND has itself (BEEP's interfaces count as BEEP), or 0
        private static final int[] OWN = {
            1, 10, 11, 2,
            20, 0, 0, 0,
            0, 30, 0, 0,
            0, 41, 40, 0,
            0, 0, 0, 50,
            0, 0, 60, 61,
            70, 0, 0, 0,
            81, 80, 0, 0};

        private final int[] kinds = new int[MOST_BODIES];
        private int bodies;
        private final int[] trail = new int[MOST_TRACED];
        private int ran;
        // the BODY that acts
        private int n;
        private int kind;

        static boolean isKind(int kind) {
            return kind >= 0 && kind < KINDS;
        }

        static boolean isUnder(int kind, int top) {
            int at = kind;
            for (int i = 0; i < KINDS && isKind(at); i++) {
                if (at == top) return true;
                at = ABOVE[at];
            }
            return false;
        }

        boolean has(int body) {
            return body >= 0 && body < bodies;
        }

        int kindOf(int body) {
            return has(body) ? kinds[body] : BAD;
        }

        int addBody(int kind) {
            if (bodies >= MOST_BODIES) return FULL;
            kinds[bodies] = kind;
            bodies++;
            return bodies - 1;
        }

        int traced(int i) {
            return i >= 0 && i < ran && i < MOST_TRACED ? trail[i] : BAD;
        }

        int start(int body, int act, int x) {
            ran = 0;
            if (!has(body) || act < 0 || act >= ACTS) return 0;
            n = body;
            kind = kinds[body];
            return own(act, x, 0);
        }

        private int own(int act, int x, int depth) {
            return actFrom(kind, act, x, depth);
        }

        /** The body of the KIND, or of the next one above that has one. */
        private int actFrom(int from, int act, int x, int depth) {
            int at = from;
            for (int i = 0; i < KINDS && isKind(at) && OWN[at * ACTS + act] == 0; i++) at = ABOVE[at];
            if (!isKind(at) || depth >= MOST_DEEP) return 0;
            int number = OWN[at * ACTS + act];
            begin(number);
            if (at == BEEP) return actOfBeep(number, x, depth + 1);
            return actOverAbove(number, ABOVE[at], x, depth + 1);
        }

        private void begin(int number) {
            if (ran < MOST_TRACED) trail[ran] = number;
            ran++;
        }

        private int actOfBeep(int number, int x, int depth) {
            switch (number) {
                case 1: return x + n;
                case 2:
                    int heard = own(HEARS, x, depth);
                    return heard - own(WAITS, 1, depth);
                case 10: return own(LIES, x, depth) * 2;
                case 11: return x ^ n;
                default: return 0;
            }
        }

        private int actOverAbove(int number, int above, int x, int depth) {
            switch (number) {
                case 20: return actFrom(above, LIES, x, depth) + 3;
                case 30: return -actFrom(above, HEARS, x, depth);
                case 40: return actFrom(above, WAITS, x, depth) * 3;
                case 41: return actFrom(above, HEARS, x + 1, depth);
                case 50: return actFrom(above, TELLS, x, depth) ^ 5;
                case 60:
                    int waited = actFrom(above, WAITS, x, depth);
                    return waited - own(LIES, 2, depth);
                case 61: return actFrom(above, TELLS, x, depth) + 1;
                case 70: return actFrom(above, LIES, x, depth) * 2;
                case 80:
                    int heard = actFrom(above, HEARS, x, depth);
                    return heard + own(WAITS, 2, depth);
                case 81: return actFrom(above, LIES, x, depth) - 1;
                default: return 0;
            }
        }
    }

    /** A SHELF: nothing, a BODY, or a ROW. */
    private static final class Shelf {
        private static final int MOST_CELLS = 60;
        private static final int NOTHING = 0, BODY = 1, ROW = 2;
        private static final int BYTES = 0, SHORTS = 1, INTS = 2, LONGS = 3, BOOLEANS = 4;

        private int held = NOTHING;
        private int body;
        private int sort;
        private int size;
        private final long[] cells = new long[MOST_CELLS];

        static boolean isSort(int sort) {
            return sort >= BYTES && sort <= BOOLEANS;
        }

        boolean holdsNothing() {
            return held == NOTHING;
        }

        boolean holdsBody() {
            return held == BODY;
        }

        boolean holdsBytes() {
            return held == ROW && sort == BYTES;
        }

        boolean isRowLike(Shelf other) {
            return held == ROW && other.held == ROW && sort == other.sort;
        }

        void clear() {
            held = NOTHING;
            size = 0;
        }

        void holdBody(int number) {
            held = BODY;
            body = number;
            size = 0;
        }

        void holdRow(int rowSort, int n) {
            held = ROW;
            sort = rowSort;
            size = n;
            for (int i = 0; i < MOST_CELLS; i++) cells[i] = 0;
        }

        /** 0, or why there is no ROW of bytes. */
        int bytesRefusal() {
            if (held == NOTHING) return NOTHING_THERE;
            return holdsBytes() ? 0 : OTHER_KIND;
        }

        /** 0, or why there is no element i of a ROW. */
        int refusalOf(int i) {
            if (held == NOTHING) return NOTHING_THERE;
            if (held != ROW) return OTHER_KIND;
            return i >= 0 && i < size ? 0 : NOT_THERE;
        }

        boolean spans(int i, int n) {
            return i >= 0 && n >= 0 && i <= size - n;
        }

        long cell(int i) {
            return i >= 0 && i < size ? cells[i] : 0;
        }

        void setCell(int i, long v) {
            if (i >= 0 && i < size) cells[i] = lowestBits(v);
        }

        private long lowestBits(long v) {
            switch (sort) {
                case BYTES: return (byte) v;
                case SHORTS: return (short) v;
                case INTS: return (int) v;
                case BOOLEANS: return v != 0 ? 1 : 0;
                default: return v;
            }
        }

        int cellsWith(long v) {
            int many = 0;
            for (int i = 0; i < size; i++) if (cells[i] == v) many++;
            return many;
        }
    }
}
