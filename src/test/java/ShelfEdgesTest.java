/**
 * Section 5 of the terms: BODIES, ACTS, THE TRACE, SHELVES, REFUSALS, PLACES FROM A ROW. Each sentence
 * that names an edge has a function of its own here, which quotes it.
 */
public final class ShelfEdgesTest {
    // by KIND: the KINDS for which it may be taken, as bits
    private static final int[] UNDER = {1, 3, 5, 13, 19, 45, 65, 193};
    private static final long NONE = Long.MIN_VALUE;

    public static void main(String[] args) {
        bodies0To49();
        kindsUnderKinds();
        anIntThatWraps();
        theNextKindAboveThatHasOne();
        fromTheKindAboveTheBodysOn();
        asTheyBegan();
        ofTheLatestAct();
        shelves0To5();
        nothingAtFirst();
        of0To60Elements();
        zeroAtFirst();
        keepsItsLowestBits();
        nothingIsThere();
        ofAnotherKind();
        placeThatIsNotThere();
        sizeBelow0();
        asTheyAllWereBefore();
        shiftedToTheEnds();
        placesWhereTheRowIsMissing();
        placesWhereItEnds();
        placesWhereOneIsNotAsItMayBe();
        placesTillFull();
        Checks.end("ShelfEdgesTest");
    }

    private static OneEarOfTwo withBodies() {
        OneEarOfTwo ear = new OneEarOfTwo();
        for (int kind = 0; kind < 8; kind++) ear.body(kind);
        return ear;
    }

    private static void acts(OneEarOfTwo ear, int body, int act, int x, int want, int... trace) {
        String call = "act(" + body + ", " + act + ", " + x + ")";
        Checks.due(call, ear.act(body, act, x), want);
        Checks.due(call + ": how many ran", ear.count(4), trace.length);
        for (int i = 0; i < trace.length; i++) Checks.due(call + ": body " + i, ear.trace(i), trace[i]);
        Checks.due(call + ": none behind", ear.trace(trace.length), -1);
        Checks.due(call + ": none ahead", ear.trace(-1), -1);
    }

    /** "BODIES 0 .. 49 are kept by call, of KINDS" */
    private static void bodies0To49() {
        OneEarOfTwo ear = new OneEarOfTwo();
        Checks.due("no BODY yet", ear.keep(0, 0), -1);
        for (int b = 0; b < 50; b++) {
            Checks.due("BODY " + b, ear.body(b % 8), b);
            Checks.due("so many", ear.count(3), b + 1);
        }
        Checks.due("a fifty-first", ear.body(0), -3);
        Checks.due("BAD ahead of FULL", ear.body(8), -1);
        Checks.due("fifty", ear.count(3), 50);
        Checks.due("the last is kept", ear.keep(0, 49), 1);
        Checks.due("of its KIND", ear.taken(0, 0), 1);
        Checks.due("none behind it", ear.keep(0, 50), -1);
        acts(ear, 49, 2, 0, 49, 11);
        acts(ear, 50, 2, 0, 0);
        Checks.due("a KIND below", new OneEarOfTwo().body(-1), -1);
        Checks.due("a KIND above", new OneEarOfTwo().body(8), -1);
        Checks.due("the last KIND", new OneEarOfTwo().body(7), 0);
    }

    /** "0 BEEP; 1 LOOK under BEEP; 2 HEARD under BEEP; 3 SILENT under HEARD; 4 MUFFLED under LOOK; 5 LATE under SILENT; 6
     *  TRODDEN under BEEP; 7 STRANGE under TRODDEN" */
    private static void kindsUnderKinds() {
        OneEarOfTwo ear = withBodies();
        for (int kind = 0; kind < 8; kind++) {
            ear.keep(0, kind);
            for (int k = 0; k < 8; k++) {
                Checks.due(kind + " for " + k, ear.taken(0, k), (UNDER[kind] >> k & 1) == 1 ? kind : -12);
            }
        }
        Checks.due("a KIND below", ear.taken(0, -1), -1);
        Checks.due("a KIND above", ear.taken(0, 8), -1);
    }

    /** "ACTS with x (an int that wraps)" */
    private static void anIntThatWraps() {
        OneEarOfTwo ear = withBodies();
        int most = Integer.MAX_VALUE, least = Integer.MIN_VALUE;
        acts(ear, 1, 0, most, least + 3, 20, 1);
        acts(ear, 0, 1, 1 << 30, least, 10, 1);
        acts(ear, 0, 0, least, least, 1);
        // -(2 * (x + 2)): 2 * (2^30 + 2^31) wraps to the least int, which is its own negative
        acts(ear, 2, 1, (1 << 30) - 2, least, 30, 10, 1);
        acts(ear, 3, 2, most, (most ^ 3) * 3, 40, 11);
        acts(ear, 3, 1, most, -((most + 1 + 3) * 2), 41, 30, 10, 1);
        acts(ear, 6, 0, most, (most + 6) * 2, 70, 1);
        acts(ear, 7, 0, least, (least + 7) * 2 - 1, 81, 70, 1);
    }

    /** "lies(..) and so on: the body of its own KIND, or of the next KIND above that has one" */
    private static void theNextKindAboveThatHasOne() {
        OneEarOfTwo ear = withBodies();
        acts(ear, 0, 0, 5, 5, 1);
        acts(ear, 0, 1, 5, 10, 10, 1);
        acts(ear, 0, 2, 5, 5, 11);
        acts(ear, 0, 3, 5, 9, 2, 10, 1, 11);
        // MUFFLED lies as LOOK does; LATE hears as SILENT does; STRANGE waits as BEEP does
        acts(ear, 4, 0, 5, 12, 20, 1);
        acts(ear, 5, 1, 5, -22, 41, 30, 10, 1);
        acts(ear, 7, 2, 5, 2, 11);
        acts(ear, 6, 1, 5, 44, 10, 70, 1);
        acts(ear, 2, 0, 5, 7, 1);
        acts(ear, 6, 3, 5, 44 - 7, 2, 10, 70, 1, 11);
        acts(ear, 7, 3, 5, 2 * 23 - 6 + 5, 2, 80, 10, 81, 70, 1, 11, 11);
    }

    /** "super: from the KIND above the body's on" */
    private static void fromTheKindAboveTheBodysOn() {
        OneEarOfTwo ear = withBodies();
        acts(ear, 5, 2, 5, -7, 60, 40, 11, 1);
        acts(ear, 5, 3, 5, -26, 61, 2, 41, 30, 10, 1, 60, 40, 11, 1);
        acts(ear, 4, 3, 5, (2 * 12 - 5) ^ 5, 50, 2, 10, 20, 1, 11);
        acts(ear, 7, 1, 5, 2 * 23 + 5, 80, 10, 81, 70, 1, 11);
        acts(ear, 3, 3, 5, -18 - 6, 2, 41, 30, 10, 1, 40, 11);
    }

    /** "numbers of the bodies that ran in the latest act(), as they began; the first 24 are kept" - no act runs more than 10 */
    private static void asTheyBegan() {
        OneEarOfTwo ear = withBodies();
        int most = 0;
        for (int body = 0; body < 8; body++) {
            for (int act = 0; act < 4; act++) {
                ear.act(body, act, 1);
                int ran = ear.count(4);
                for (int i = 0; i < ran; i++) Checks.due("kept", ear.trace(i) > 0 ? 1 : 0, 1);
                Checks.due("none behind", ear.trace(ran), -1);
                most = Math.max(most, ran);
            }
        }
        Checks.due("the most", most, 10);
        Checks.due("the 24th", ear.trace(23), -1);
        Checks.due("the 25th", ear.trace(24), -1);
        Checks.due("far", ear.trace(Integer.MAX_VALUE), -1);
        Checks.due("far below", ear.trace(Integer.MIN_VALUE), -1);
    }

    /** "0, and no TRACE then: no such BODY, ACT" */
    private static void ofTheLatestAct() {
        OneEarOfTwo ear = withBodies();
        Checks.due("none yet", ear.trace(0), -1);
        Checks.due("none yet", ear.count(4), 0);
        int[][] none = {{8, 0}, {-1, 0}, {0, 4}, {0, -1}, {49, 3}, {Integer.MAX_VALUE, 0}, {0, Integer.MIN_VALUE}};
        for (int[] call : none) {
            acts(ear, 5, 0, 1, 6, 1);
            acts(ear, call[0], call[1], 1, 0);
        }
        acts(ear, 5, 3, 5, -26, 61, 2, 41, 30, 10, 1, 60, 40, 11, 1);
        acts(ear, 0, 0, 5, 5, 1);
    }

    /** "SHELVES 0 .. 5" */
    private static void shelves0To5() {
        OneEarOfTwo ear = withBodies();
        for (int shelf = 0; shelf < 6; shelf++) {
            Checks.due("row on " + shelf, ear.row(shelf, 3, shelf + 1), 1);
            Checks.due("put on " + shelf, ear.put(shelf, shelf, 100 + shelf), 1);
        }
        for (int shelf = 0; shelf < 6; shelf++) {
            Checks.due("each has its own", ear.element(shelf, shelf), 100 + shelf);
            Checks.due("and no more", ear.element(shelf, shelf + 1), NONE);
        }
        for (int shelf : new int[] {-1, 6, Integer.MAX_VALUE, Integer.MIN_VALUE}) {
            Checks.due("keep on " + shelf, ear.keep(shelf, 0), -1);
            Checks.due("row on " + shelf, ear.row(shelf, 0, 1), -1);
            Checks.due("put on " + shelf, ear.put(shelf, 0, 1), -1);
            Checks.due("element on " + shelf, ear.element(shelf, 0), NONE);
            Checks.due("taken on " + shelf, ear.taken(shelf, 0), -1);
            Checks.due("shift from " + shelf, ear.shift(shelf, 0, 0, 0, 0), -1);
            Checks.due("shift to " + shelf, ear.shift(0, 0, shelf, 0, 0), -1);
            Checks.due("places on " + shelf, ear.places(shelf, 0, 1), -1);
        }
    }

    /** "each hold nothing (at first), a BODY, or a ROW", "A SHELF holds nothing (body -1), or a BODY" */
    private static void nothingAtFirst() {
        OneEarOfTwo ear = withBodies();
        for (int shelf = 0; shelf < 6; shelf++) {
            Checks.due("nothing at first", ear.taken(shelf, 0), -11);
            Checks.due("nothing still", ear.keep(shelf, -1), 1);
            Checks.due("nothing at first", ear.put(shelf, 0, 1), -11);
        }
        Checks.due("a BODY", ear.keep(0, 7), 1);
        Checks.due("is there", ear.taken(0, 7), 7);
        Checks.due("another one", ear.keep(0, 2), 1);
        Checks.due("is there", ear.taken(0, 2), 2);
        Checks.due("a ROW instead", ear.row(0, 0, 3), 1);
        Checks.due("the BODY is not there", ear.taken(0, 0), -12);
        Checks.due("a BODY instead", ear.keep(0, 0), 1);
        Checks.due("the ROW is not there", ear.put(0, 0, 1), -12);
        Checks.due("nothing", ear.keep(0, -1), 1);
        Checks.due("the BODY is not there", ear.taken(0, 0), -11);
        ear.row(0, 0, 3);
        Checks.due("nothing", ear.keep(0, -1), 1);
        Checks.due("the ROW is not there", ear.put(0, 0, 1), -11);
        Checks.due("body -2", ear.keep(0, -2), -1);
        Checks.due("no such BODY", ear.keep(0, 8), -1);
    }

    /** "of 0 bytes, 1 shorts, 2 ints, 3 longs, 4 booleans, of 0 .. 60 elements" */
    private static void of0To60Elements() {
        OneEarOfTwo ear = new OneEarOfTwo();
        for (int sort = 0; sort < 5; sort++) {
            for (int n : new int[] {0, 1, 59, 60}) {
                Checks.due("sort " + sort + ", n " + n, ear.row(0, sort, n), 1);
                Checks.due("before the first", ear.element(0, -1), NONE);
                if (n > 0) Checks.due("the first", ear.element(0, 0), 0);
                if (n > 0) Checks.due("the last", ear.element(0, n - 1), 0);
                Checks.due("behind the last", ear.element(0, n), NONE);
                Checks.due("behind the last", ear.put(0, n, 1), -13);
            }
            Checks.due("n 61", ear.row(0, sort, 61), -1);
            Checks.due("n far", ear.row(0, sort, Integer.MAX_VALUE), -1);
        }
        Checks.due("sort -1", ear.row(0, -1, 1), -1);
        Checks.due("sort 5", ear.row(0, 5, 1), -1);
        Checks.due("the ROW is as it was", ear.element(0, 59), 0);
    }

    /** "0 at first (false)" */
    private static void zeroAtFirst() {
        for (int sort = 0; sort < 5; sort++) {
            OneEarOfTwo ear = new OneEarOfTwo();
            ear.row(0, sort, 60);
            for (int i = 0; i < 60; i++) ear.put(0, i, 1);
            ear.row(0, 4 - sort, 60);
            for (int i = 0; i < 60; i++) Checks.due("0 at first", ear.element(0, i), 0);
            ear.row(0, sort, 2);
            ear.put(0, 1, 1);
            ear.row(0, sort, 60);
            Checks.due("0 behind a shorter one", ear.element(0, 1), 0);
            ear.put(0, 0, 1);
            ear.keep(0, -1);
            ear.row(0, sort, 60);
            Checks.due("0 behind nothing", ear.element(0, 0), 0);
        }
    }

    private static void kept(int sort, long v, long want) {
        OneEarOfTwo ear = new OneEarOfTwo();
        ear.row(0, sort, 1);
        Checks.due("put", ear.put(0, 0, v), 1);
        Checks.due("sort " + sort + " keeps of " + v, ear.element(0, 0), want);
    }

    /** "what is put in keeps its lowest bits (a boolean: whether it is not 0; 1 or 0)" */
    private static void keepsItsLowestBits() {
        long most = Long.MAX_VALUE, least = Long.MIN_VALUE;
        long[] edges = {0, 1, -1, 127, 128, -128, -129, 255, 256, 32767, 32768, -32768, -32769, 65535, 65536, 2147483647L,
            2147483648L, -2147483648L, -2147483649L, 4294967295L, 4294967296L, most, least, least + 1};
        for (long v : edges) {
            kept(0, v, ((v & 255) ^ 128) - 128);
            kept(1, v, ((v & 65535) ^ 32768) - 32768);
            kept(2, v, ((v & 4294967295L) ^ 2147483648L) - 2147483648L);
            kept(3, v, v);
            kept(4, v, v == 0 ? 0 : 1);
        }
    }

    /** "-11 nothing is there where something is wanted" */
    private static void nothingIsThere() {
        OneEarOfTwo ear = withBodies();
        ear.row(1, 0, 3);
        Checks.due("put", ear.put(0, 0, 1), -11);
        Checks.due("put, -11 ahead of -13", ear.put(0, -1, 1), -11);
        Checks.due("element", ear.element(0, 0), NONE);
        Checks.due("shift from", ear.shift(0, 0, 1, 0, 0), -11);
        Checks.due("shift to", ear.shift(1, 0, 0, 0, 0), -11);
        Checks.due("shift, both", ear.shift(0, 0, 0, 0, 0), -11);
        Checks.due("shift, -11 ahead of -13", ear.shift(1, -1, 0, 0, -1), -11);
        ear.keep(2, 0);
        Checks.due("shift, -11 ahead of -12", ear.shift(2, 0, 0, 0, 0), -11);
        Checks.due("shift, -11 ahead of -12", ear.shift(0, 0, 2, 0, 0), -11);
        Checks.due("taken", ear.taken(0, 0), -11);
        Checks.due("round", ear.round(0, -1), -11);
        Checks.due("ifNot", ear.ifNot(0, 0), -11);
        Checks.due("by", ear.by(0, 0), -11);
        Checks.due("next", ear.next(0, 1, 0), -11);
        Checks.due("stay", ear.stay(0, 0), -11);
        Checks.due("giveUp", ear.giveUp(0, 0, 0), -11);
        Checks.due("dead", ear.dead(0), -11);
        Checks.due("strangers", ear.strangers(0, 0), -11);
        Checks.due("drawn", ear.drawn(0, 1, 1, 0), -11);
    }

    /** Of a SHELF that holds a BODY, or a ROW of another sort. */
    private static void noRowOfBytes(String held, OneEarOfTwo ear, int shelf) {
        Checks.due("round of " + held, ear.round(shelf, -1), -12);
        Checks.due("ifNot of " + held, ear.ifNot(shelf, 0), -12);
        Checks.due("by of " + held, ear.by(shelf, 0), -12);
        Checks.due("next of " + held, ear.next(shelf, 1, 0), -12);
        Checks.due("stay of " + held, ear.stay(shelf, 0), -12);
        Checks.due("giveUp of " + held, ear.giveUp(shelf, 0, 0), -12);
        Checks.due("dead of " + held, ear.dead(shelf), -12);
        Checks.due("strangers of " + held, ear.strangers(shelf, 0), -12);
        Checks.due("drawn of " + held, ear.drawn(shelf, 1, 1, 0), -12);
        Checks.due("places of " + held, ear.places(shelf, 0, 1), -12);
    }

    /** "-12 it is of another kind" */
    private static void ofAnotherKind() {
        OneEarOfTwo ear = withBodies();
        ear.keep(0, 0);
        noRowOfBytes("a BODY", ear, 0);
        for (int sort = 1; sort < 5; sort++) {
            ear.row(sort, sort, 3);
            noRowOfBytes("a ROW of sort " + sort, ear, sort);
        }
        Checks.due("put into a BODY", ear.put(0, 0, 1), -12);
        Checks.due("put, -12 ahead of -13", ear.put(0, -1, 1), -12);
        Checks.due("element of a BODY", ear.element(0, 0), NONE);
        Checks.due("taken of a ROW", ear.taken(1, 0), -12);
        Checks.due("shift from a BODY", ear.shift(0, 0, 1, 0, 0), -12);
        Checks.due("shift to a BODY", ear.shift(1, 0, 0, 0, 0), -12);
        Checks.due("shift within a BODY", ear.shift(0, 0, 0, 0, 0), -12);
        Checks.due("shift, -12 ahead of -13", ear.shift(1, -1, 2, 9, -1), -12);
        ear.row(0, 0, 3);
        for (int a = 0; a < 5; a++) {
            for (int b = 0; b < 5; b++) Checks.due("sorts " + a + ", " + b, ear.shift(a, 0, b, 0, 3), a == b ? 3 : -12);
        }
    }

    /** "-13 a place that is not there", "(n below 0, too)" */
    private static void placeThatIsNotThere() {
        OneEarOfTwo ear = new OneEarOfTwo();
        ear.row(0, 2, 5);
        ear.row(1, 2, 3);
        int most = Integer.MAX_VALUE, least = Integer.MIN_VALUE;
        for (int i : new int[] {-1, 5, 60, most, least}) {
            Checks.due("put " + i, ear.put(0, i, 1), -13);
            Checks.due("element " + i, ear.element(0, i), NONE);
        }
        int[][] none = {{-1, 0, 1}, {0, -1, 1}, {5, 0, 1}, {0, 3, 1}, {4, 0, 2}, {0, 2, 2}, {0, 0, 4}, {0, 0, -1}, {-1, 0, 0},
            {0, -1, 0}, {6, 0, 0}, {0, 4, 0}, {1, 1, most}, {most, 0, 1}, {0, most, 1}, {most, most, most}, {least, 0, 1},
            {0, least, 1}, {0, 0, least}, {1, 1, least}};
        for (int[] c : none) {
            Checks.due("shift " + c[0] + ", " + c[1] + ", " + c[2], ear.shift(0, c[0], 1, c[1], c[2]), -13);
        }
        for (int i = 0; i < 3; i++) Checks.due("nothing came", ear.element(1, i), 0);
    }

    /** "-14 a size below 0" */
    private static void sizeBelow0() {
        OneEarOfTwo ear = withBodies();
        Checks.due("n -1", ear.row(0, 0, -1), -14);
        Checks.due("n far below", ear.row(0, 4, Integer.MIN_VALUE), -14);
        Checks.due("BAD ahead of -14: sort", ear.row(0, 5, -1), -1);
        Checks.due("BAD ahead of -14: SHELF", ear.row(6, 0, -1), -1);
        Checks.due("nothing is there still", ear.put(0, 0, 1), -11);
        ear.keep(0, 3);
        Checks.due("n -1", ear.row(0, 0, -1), -14);
        Checks.due("the BODY is there still", ear.taken(0, 0), 3);
    }

    private static void shifted(int i, int j, int n, int... want) {
        OneEarOfTwo ear = new OneEarOfTwo();
        ear.row(0, 1, want.length);
        for (int k = 0; k < want.length; k++) ear.put(0, k, k + 1);
        Checks.due("n", ear.shift(0, i, 0, j, n), n);
        for (int k = 0; k < want.length; k++) Checks.due(i + " to " + j + ", " + n + ": " + k, ear.element(0, k), want[k]);
    }

    /** "come to another one (or the same) from j on, as they all were before" */
    private static void asTheyAllWereBefore() {
        shifted(0, 1, 4, 1, 1, 2, 3, 4);
        shifted(1, 0, 4, 2, 3, 4, 5, 5);
        shifted(0, 2, 3, 1, 2, 1, 2, 3);
        shifted(2, 0, 3, 3, 4, 5, 4, 5);
        shifted(0, 0, 5, 1, 2, 3, 4, 5);
        shifted(4, 0, 1, 5, 2, 3, 4, 5);
    }

    /** "n elements of a ROW from i on come .. from j on": none, all, to the very ends */
    private static void shiftedToTheEnds() {
        shifted(5, 5, 0, 1, 2, 3, 4, 5);
        shifted(5, 0, 0, 1, 2, 3, 4, 5);
        shifted(0, 5, 0, 1, 2, 3, 4, 5);
        OneEarOfTwo ear = new OneEarOfTwo();
        ear.row(0, 3, 60);
        ear.row(1, 3, 60);
        for (int i = 0; i < 60; i++) ear.put(0, i, Long.MIN_VALUE + 1 + i);
        Checks.due("all 60", ear.shift(0, 0, 1, 0, 60), 60);
        for (int i = 0; i < 60; i++) Checks.due("came", ear.element(1, i), Long.MIN_VALUE + 1 + i);
        ear.row(2, 3, 0);
        Checks.due("none to an empty one", ear.shift(0, 60, 2, 0, 0), 0);
        Checks.due("none of an empty one", ear.shift(2, 0, 0, 60, 0), 0);
        Checks.due("one to an empty one", ear.shift(0, 0, 2, 0, 1), -13);
        Checks.due("one of an empty one", ear.shift(2, 0, 0, 0, 1), -13);
    }

    /** "it ends where the row is missing", "(0 with i below 0)", "a SHELF that holds nothing is missing" */
    private static void placesWhereTheRowIsMissing() {
        OneEarOfTwo ear = new OneEarOfTwo();
        Checks.due("nothing is there", ear.places(0, 0, 8), 0);
        Checks.due("nothing is there, i below 0", ear.places(0, -1, 8), 0);
        Checks.due("n 0, though nothing is there", ear.places(0, 0, 0), -1);
        Checks.lay(ear, 0, 1, 1, 1, 2, 2, 2);
        Checks.due("i -1", ear.places(0, -1, 1), 0);
        Checks.due("i -3", ear.places(0, -3, 2), 0);
        Checks.due("i far below", ear.places(0, Integer.MIN_VALUE, 8), 0);
        Checks.due("none came", ear.count(0), 0);
        Checks.due("n 0", ear.places(0, 0, 0), -1);
        Checks.due("n -1", ear.places(0, 0, -1), -1);
        Checks.due("n 9", ear.places(0, 0, 9), -1);
        Checks.due("n 0, i below 0", ear.places(0, -1, 0), -1);
        Checks.due("n 1", ear.places(0, 0, 1), 1);
        Checks.due("n 8", ear.places(0, 0, 8), 2);
    }

    /** "ends (within a three, too)" */
    private static void placesWhereItEnds() {
        for (int size = 0; size <= 12; size++) {
            for (int i = 0; i <= 13; i++) {
                OneEarOfTwo ear = new OneEarOfTwo();
                ear.row(0, 0, size);
                int want = i >= size ? 0 : (size - i) / 3;
                Checks.due("from " + i + " of " + size, ear.places(0, i, 8), want);
                Checks.due("so many came", ear.count(0), want);
            }
        }
        OneEarOfTwo far = new OneEarOfTwo();
        far.row(0, 0, 60);
        Checks.due("i far", far.places(0, Integer.MAX_VALUE, 8), 0);
        Checks.due("i 57", far.places(0, 57, 8), 1);
        Checks.due("i 58", far.places(0, 58, 8), 0);
        far.row(1, 0, 0);
        Checks.due("an empty ROW", far.places(1, 0, 1), 0);
    }

    /** "one is not as it may be": "those ahead came" */
    private static void placesWhereOneIsNotAsItMayBe() {
        for (int at = 0; at < 9; at++) {
            for (int v : new int[] {-128, -1, 0, 99, 100, 127}) {
                OneEarOfTwo ear = new OneEarOfTwo();
                Checks.lay(ear, 0, 1, 2, 3, 4, 5, 6, 7, 8, 9);
                ear.put(0, at, v);
                int want = v == 0 || v == 99 ? 3 : at / 3;
                Checks.due(v + " at " + at, ear.places(0, 0, 3), want);
                Checks.due("those ahead came", ear.count(0), want);
                for (int p = 0; p < want; p++) {
                    for (int what = 0; what < 3; what++) {
                        int i = 3 * p + what;
                        Checks.due(what + " of " + p, ear.of(p, what), i == at ? v : i + 1);
                    }
                }
            }
        }
    }

    /** "or PLACES are FULL: those ahead came" */
    private static void placesTillFull() {
        OneEarOfTwo ear = new OneEarOfTwo();
        ear.row(0, 0, 60);
        for (int p = 0; p < 6; p++) ear.place(p, 1);
        Checks.due("two of three", ear.places(0, 0, 3), 2);
        Checks.due("none", ear.places(0, 0, 1), 0);
        Checks.due("FULL", ear.place(0, 0), -3);
        Checks.due("eight", ear.count(0), 8);
        OneEarOfTwo all = new OneEarOfTwo();
        all.row(0, 0, 60);
        Checks.due("eight at once", all.places(0, 0, 8), 8);
        Checks.due("HUSH at first", all.of(7, 3), 5);
        Checks.due("DEEP at first", all.of(7, 4), 0);
    }
}
