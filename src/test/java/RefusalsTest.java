import java.util.ArrayList;
import java.util.List;

/**
 * "Answers, of several the one named first: BAD (-1) ..; NOT (-2) ..; FULL (-3); STATE (-5) ..; -11 to -14.
 * What is answered so changes nothing." Each refused call is made on an object of its own; then all that
 * the object shows is compared with what a twin shows that was never asked.
 */
public final class RefusalsTest {
    private static final int BAD = -1, NOT = -2, FULL = -3, STATE = -5;
    private static final int MOST = Integer.MAX_VALUE, LEAST = Integer.MIN_VALUE;
    private static final long NONE = Long.MIN_VALUE;

    private interface Call {
        long on(OneEarOfTwo ear);
    }

    private interface Maker {
        OneEarOfTwo make();
    }

    private static final List<String> told = new ArrayList<>();
    private static final List<Long> dues = new ArrayList<>();
    private static final List<Call> calls = new ArrayList<>();

    public static void main(String[] args) {
        badPlaces();
        badRounds();
        badBuying();
        badDeeds();
        badShelves();
        // these are BAD in any state
        check("new", OneEarOfTwo::new);
        check("with all", RefusalsTest::withAll);
        check("late", RefusalsTest::late);
        forget();
        refusedWhenNew();
        check("new", OneEarOfTwo::new);
        forget();
        notAsTold();
        otherKinds();
        notThere();
        check("with all", RefusalsTest::withAll);
        forget();
        refusedWhenFull();
        check("full", RefusalsTest::full);
        forget();
        add("6 feed, 120 bytes", FULL, ear -> ear.feed('1'));
        add("6 feed, BAD ahead of FULL", BAD, ear -> ear.feed(-1));
        check("a full tape", RefusalsTest::fullTape);
        forget();
        refusedWhenLate();
        check("late", RefusalsTest::late);
        askedAlone();
        Checks.end("RefusalsTest");
    }

    private static void add(String name, long due, Call call) {
        told.add(name);
        dues.add(due);
        calls.add(call);
    }

    private static void check(String state, Maker maker) {
        String twin = shown(maker.make());
        for (int i = 0; i < calls.size(); i++) {
            OneEarOfTwo ear = maker.make();
            Checks.due(state + ": " + told.get(i), calls.get(i).on(ear), dues.get(i));
            Checks.due(state + ": " + told.get(i) + " changes nothing", shown(ear).equals(twin) ? 1 : 0, 1);
        }
    }

    private static void forget() {
        told.clear();
        dues.clear();
        calls.clear();
    }

    /** All that an object shows; what can be seen by changes alone comes last. */
    private static String shown(OneEarOfTwo ear) {
        StringBuilder text = new StringBuilder();
        for (int what = 0; what < 5; what++) text.append(ear.count(what)).append(' ');
        for (int what = 0; what < 6; what++) text.append(ear.led(what)).append(' ');
        numbers(ear, text);
        for (int p = 0; p < ear.count(0); p++) {
            text.append(ear.of(p, 14)).append(' ').append(ear.of(p, 15)).append(' ').append(ear.hears(p, 2003)).append(' ');
        }
        for (int shelf = 0; shelf < 6; shelf++) {
            text.append("shelf ").append(ear.taken(shelf, 0)).append(' ').append(ear.round(shelf, -1)).append(' ');
            for (int i = 0; ear.element(shelf, i) != NONE; i++) text.append(ear.element(shelf, i)).append(' ');
        }
        for (int i = 0; ear.trace(i) != BAD; i++) text.append(ear.trace(i)).append(' ');
        while (ear.undo() >= 0) text.append("undone ");
        numbers(ear, text);
        while (ear.redo() >= 0) text.append("done again ");
        numbers(ear, text);
        text.append(ear.back());
        for (int what = 0; what < 6; what++) text.append(' ').append(ear.led(what));
        for (int p = 0; p < ear.count(0); p++) text.append(' ').append(ear.of(p, 14)).append(' ').append(ear.of(p, 15));
        text.append(" law ").append(ear.feed('+')).append(' ').append(ear.law()).append(' ').append(ear.hears(0, 2003));
        return text.append(" more ").append(ear.place(0, 0)).append(' ').append(ear.body(0)).toString();
    }

    private static void numbers(OneEarOfTwo ear, StringBuilder text) {
        for (int p = 0; p < ear.count(0); p++) for (int what = 0; what < 5; what++) text.append(ear.of(p, what)).append(' ');
        for (int what = 5; what < 14; what++) text.append(ear.of(0, what)).append(' ');
    }

    /** Something of everything: SHELF 0 a ROUND, 1 a BODY, 2 ints, 3 booleans, 4 nothing, 5 bytes. */
    private static OneEarOfTwo withAll() {
        OneEarOfTwo ear = Checks.withPlaces(0, 30, 40, 20, 3000, 10);
        Checks.tell(ear, "h-d+k%3;2");
        ear.feed('h');
        for (int i = 0; i < 4; i++) ear.mend(i % 3, 3 + i % 2, 2 * i + 1);
        ear.mend(0, 5, 7);
        ear.undo();
        ear.undo();
        for (int kind = 0; kind < 8; kind++) ear.body(kind);
        ear.act(5, 3, 5);
        Checks.lay(ear, 0, 0, 3, 1, 5);
        ear.keep(1, 6);
        ear.row(2, 2, 4);
        ear.put(2, 3, -9);
        ear.row(3, 4, 2);
        Checks.lay(ear, 5, 1, 0, -1, 2, 4, 4, 100);
        ear.again();
        ear.listen(2);
        ear.image();
        ear.go(1);
        ear.listen(3);
        return ear;
    }

    /** Eight PLACES, fifty BODIES. */
    private static OneEarOfTwo full() {
        OneEarOfTwo ear = Checks.withPlaces(0, 1, 1, 1, 2, 1, 3, 1, 4, 1, 5, 1, 6, 1, 7, 1);
        for (int i = 0; i < 50; i++) ear.body(i % 8);
        Checks.lay(ear, 0, 0, 3, 1, 5, 2, 9);
        return ear;
    }

    private static OneEarOfTwo fullTape() {
        OneEarOfTwo ear = Checks.withPlaces(0, 1);
        for (int i = 0; i < 120; i++) ear.feed(i % 2 == 0 ? '1' : '+');
        return ear;
    }

    /** At PLACE 1, minute 990. */
    private static OneEarOfTwo late() {
        OneEarOfTwo ear = Checks.withPlaces(0, 30, 99, 20, 9999, 10);
        Checks.tell(ear, "k%40=7");
        ear.mend(0, 7, 1);
        ear.again();
        ear.go(1);
        for (int i = 0; i < 9; i++) ear.listen(99);
        return ear;
    }

    private static void badPlaces() {
        for (int xy : new int[] {-1, 10000, MOST, LEAST}) add("2 place(" + xy + ", 0)", BAD, ear -> ear.place(xy, 0));
        for (int odds : new int[] {-1, 100, MOST, LEAST}) add("2 place(0, " + odds + ")", BAD, ear -> ear.place(0, odds));
        for (int shelf : new int[] {-1, 6, MOST, LEAST}) add("3 places of " + shelf, BAD, ear -> ear.places(shelf, 0, 1));
        for (int n : new int[] {0, -1, 9, MOST, LEAST}) add("3 places, n " + n, BAD, ear -> ear.places(5, 0, n));
        int[] most = {99, 99, 99, 9, 9, 99, 999, 99, 9999, 9999, 12, 9999, 99, 99};
        int[] least = {0, 0, 0, 0, 0, 0, 0, 1, 0, 0, 0, 0, 1, 1};
        for (int w = 0; w < 14; w++) {
            int what = w;
            add("4 mend too much, " + what, BAD, ear -> ear.mend(0, what, most[what] + 1));
            add("4 mend too little, " + what, BAD, ear -> ear.mend(0, what, least[what] - 1));
            int[] others = what < 5 ? new int[] {-1, 3, 8, MOST} : new int[] {-1, 1, 7, LEAST};
            for (int number : others) {
                add("4 mend number " + number + ", " + what, BAD, ear -> ear.mend(number, what, 1));
                add("5 of number " + number + ", " + what, BAD, ear -> ear.of(number, what));
            }
        }
        for (int what : new int[] {-1, 14, 15, MOST, LEAST}) add("4 mend what " + what, BAD, ear -> ear.mend(0, what, 1));
        for (int what : new int[] {-1, 16, MOST, LEAST}) add("5 of what " + what, BAD, ear -> ear.of(0, what));
        for (int p : new int[] {-1, 3, 8}) {
            add("5 of 14 of PLACE " + p, BAD, ear -> ear.of(p, 14));
            add("5 of 15 of PLACE " + p, BAD, ear -> ear.of(p, 15));
            add("8 hears in PLACE " + p, BAD, ear -> ear.hears(p, 0));
        }
        for (int letter : new int[] {-1, 256, MOST, LEAST}) add("6 feed " + letter, BAD, ear -> ear.feed(letter));
        for (int km : new int[] {-1, 1000000, MOST, LEAST}) add("8 hears, km " + km, BAD, ear -> ear.hears(0, km));
    }

    private static void badRounds() {
        for (int shelf : new int[] {-1, 6, MOST, LEAST}) {
            add("9 round of " + shelf, BAD, ear -> ear.round(shelf, -1));
            add("10 ifNot of " + shelf, BAD, ear -> ear.ifNot(shelf, 0));
            add("11 by of " + shelf, BAD, ear -> ear.by(shelf, 0));
            add("12 next of " + shelf, BAD, ear -> ear.next(shelf, 1, 0));
            add("13 stay of " + shelf, BAD, ear -> ear.stay(shelf, 0));
            add("15 giveUp of " + shelf, BAD, ear -> ear.giveUp(shelf, 0, 0));
            add("17 dead of " + shelf, BAD, ear -> ear.dead(shelf));
        }
        // BAD is named ahead of -11 and -12: what the SHELF holds is all one
        for (int s = 0; s < 6; s++) {
            int shelf = s;
            for (int place : new int[] {-4, 3, MOST, LEAST}) add("9 round at " + place, BAD, ear -> ear.round(shelf, place));
            for (int what : new int[] {-1, 2}) add("10 ifNot " + what, BAD, ear -> ear.ifNot(shelf, what));
            for (int v : new int[] {-1, 1000001, MOST, LEAST}) add("11 by " + v, BAD, ear -> ear.by(shelf, v));
            for (int n : new int[] {0, -1, 100, MOST}) add("12 next n " + n, BAD, ear -> ear.next(shelf, n, 0));
            for (int what : new int[] {-1, 2}) add("12 next what " + what, BAD, ear -> ear.next(shelf, 1, what));
            for (int v : new int[] {-1, 1000000, MOST, LEAST}) add("13 stay " + v, BAD, ear -> ear.stay(shelf, v));
            for (int wp : new int[] {-1, 1000000, MOST}) add("15 giveUp wp " + wp, BAD, ear -> ear.giveUp(shelf, wp, 0));
            for (int what : new int[] {-1, 2}) add("15 giveUp what " + what, BAD, ear -> ear.giveUp(shelf, 0, what));
        }
        for (int set : new int[] {-1, 8, 256, MOST, LEAST}) add("14 best of " + set, BAD, ear -> ear.best(set, 1, 0));
        for (int n : new int[] {0, -1, 100, MOST}) add("14 best n " + n, BAD, ear -> ear.best(0, n, 0));
        for (int k : new int[] {-2, LEAST}) add("14 best k " + k, BAD, ear -> ear.best(0, 1, k));
        for (int xy : new int[] {-1, 10000, MOST, LEAST}) add("16 seen at " + xy, BAD, ear -> ear.seen(xy, 0));
        for (int yards : new int[] {-1, 100, MOST, LEAST}) add("16 seen in " + yards, BAD, ear -> ear.seen(0, yards));
    }

    private static void badBuying() {
        for (int n : new int[] {-1, 21, MOST, LEAST}) add("18 buy n " + n, BAD, ear -> ear.buy(n, 0));
        for (int what : new int[] {-1, 2, MOST}) add("18 buy what " + what, BAD, ear -> ear.buy(0, what));
        for (int n : new int[] {-1, 0, 21, MOST, LEAST}) add("19 waits " + n, BAD, ear -> ear.waits(n));
        for (int shelf : new int[] {-1, 6, MOST, LEAST}) {
            add("20 strangers of " + shelf, BAD, ear -> ear.strangers(shelf, 0));
            add("23 drawn of " + shelf, BAD, ear -> ear.drawn(shelf, 1, 1, 0));
        }
        for (int n : new int[] {-1, 10000, MOST, LEAST}) add("21 worn " + n, BAD, ear -> ear.worn(n));
        for (int xy : new int[] {-1, 10000, MOST, LEAST}) add("22 grass at " + xy, BAD, ear -> ear.grass(xy, 0));
        for (int what : new int[] {-1, 2}) add("22 grass what " + what, BAD, ear -> ear.grass(0, what));
        for (int s = 0; s < 6; s++) {
            int shelf = s;
            for (int what : new int[] {-1, 3}) add("20 strangers what " + what, BAD, ear -> ear.strangers(shelf, what));
            for (int n : new int[] {-1, 0, 31, MOST}) add("23 drawn n " + n, BAD, ear -> ear.drawn(shelf, 1, n, 0));
            for (int what : new int[] {-1, 2}) add("23 drawn what " + what, BAD, ear -> ear.drawn(shelf, 1, 1, what));
        }
    }

    private static void badDeeds() {
        for (int place : new int[] {-1, 3, 8, MOST, LEAST}) {
            add("24 go to " + place, BAD, ear -> ear.go(place));
            add("26 find in " + place, BAD, ear -> ear.find(place));
        }
        for (int n : new int[] {-1, 0, 100, MOST, LEAST}) add("25 listen " + n, BAD, ear -> ear.listen(n));
        for (int what : new int[] {-1, 6, MOST, LEAST}) add("28 led " + what, BAD, ear -> ear.led(what));
    }

    private static void badShelves() {
        for (int kind : new int[] {-1, 8, MOST, LEAST}) add("33 body " + kind, BAD, ear -> ear.body(kind));
        for (int i : new int[] {-1, 10, 23, 24, MOST, LEAST}) add("35 trace " + i, BAD, ear -> ear.trace(i));
        for (int shelf : new int[] {-1, 6, MOST, LEAST}) {
            add("36 keep on " + shelf, BAD, ear -> ear.keep(shelf, -1));
            add("37 row on " + shelf, BAD, ear -> ear.row(shelf, 0, 1));
            add("37 row on " + shelf + ", n below 0", BAD, ear -> ear.row(shelf, 0, -1));
            add("38 put on " + shelf, BAD, ear -> ear.put(shelf, 0, 1));
            add("39 element on " + shelf, NONE, ear -> ear.element(shelf, 0));
            for (int s = 0; s < 6; s++) {
                int other = s;
                add("40 shift from " + shelf, BAD, ear -> ear.shift(shelf, -1, other, -1, -1));
                add("40 shift to " + shelf, BAD, ear -> ear.shift(other, -1, shelf, -1, -1));
            }
            add("41 taken on " + shelf, BAD, ear -> ear.taken(shelf, 0));
        }
        for (int body : new int[] {-2, 8, 50, MOST, LEAST}) add("36 keep " + body, BAD, ear -> ear.keep(4, body));
        for (int s = 0; s < 6; s++) {
            int shelf = s;
            for (int sort : new int[] {-1, 5, MOST}) add("37 row of " + sort, BAD, ear -> ear.row(shelf, sort, -1));
            for (int n : new int[] {61, MOST}) add("37 row, n " + n, BAD, ear -> ear.row(shelf, 0, n));
            for (int n : new int[] {-1, LEAST}) add("37 row, n " + n, -14, ear -> ear.row(shelf, 0, n));
            for (int k : new int[] {-1, 8, MOST}) add("41 taken for " + k, BAD, ear -> ear.taken(shelf, k));
        }
        for (int what : new int[] {-1, 5, MOST, LEAST}) add("42 count " + what, BAD, ear -> ear.count(what));
    }

    /** Of a new object: nothing on SHELVES, no PLACES, no image, no CHANGES. */
    private static void refusedWhenNew() {
        add("9 round", -11, ear -> ear.round(0, -1));
        add("10 ifNot", -11, ear -> ear.ifNot(0, 0));
        add("11 by", -11, ear -> ear.by(0, 0));
        add("12 next: -11, not NOT", -11, ear -> ear.next(0, 1, 0));
        add("13 stay: -11, not NOT", -11, ear -> ear.stay(0, 0));
        add("15 giveUp", -11, ear -> ear.giveUp(0, 0, 0));
        add("17 dead: -11, not NOT", -11, ear -> ear.dead(0));
        add("20 strangers: -11, not NOT", -11, ear -> ear.strangers(0, 1));
        add("23 drawn", -11, ear -> ear.drawn(0, 1, 1, 0));
        add("38 put", -11, ear -> ear.put(0, 0, 1));
        add("38 put, -11 ahead of -13", -11, ear -> ear.put(0, -1, 1));
        add("39 element", NONE, ear -> ear.element(0, 0));
        add("40 shift, -11 ahead of -13", -11, ear -> ear.shift(0, -1, 1, -1, -1));
        add("41 taken", -11, ear -> ear.taken(0, 0));
        add("14 best of none, the first", NOT, ear -> ear.best(0, 1, 0));
        add("22 grass", NOT, ear -> ear.grass(0, 0));
        add("22 grass", NOT, ear -> ear.grass(0, 1));
        add("25 listen", STATE, ear -> ear.listen(1));
        add("28 led: at no PLACE", NOT, ear -> ear.led(5));
        add("30 back", STATE, ear -> ear.back());
        add("31 undo", STATE, ear -> ear.undo());
        add("32 redo", STATE, ear -> ear.redo());
        add("3 places: the ROW is missing", 0, ear -> ear.places(0, 0, 8));
        add("34 act: no such BODY", 0, ear -> ear.act(0, 0, 1));
    }

    private static void notAsTold() {
        add("11 by: never", NOT, ear -> ear.by(0, 1000000));
        add("11 by: never, of no ROUND", NOT, ear -> ear.by(5, 1000000));
        add("14 best: not as many", NOT, ear -> ear.best(7, 1, 3));
        add("20 strangers: none is left over", NOT, ear -> ear.strangers(5, 1));
        add("13 stay: one is at no PLACE", NOT, ear -> ear.stay(5, 1));
        add("17 dead: one is at no PLACE", NOT, ear -> ear.dead(5));
    }

    /** SHELF 1 holds a BODY, 2 ints, 3 booleans. */
    private static void otherKinds() {
        for (int s = 1; s < 4; s++) {
            int shelf = s;
            add("3 places of " + shelf, -12, ear -> ear.places(shelf, 0, 1));
            add("9 round of " + shelf, -12, ear -> ear.round(shelf, -1));
            add("10 ifNot of " + shelf, -12, ear -> ear.ifNot(shelf, 0));
            add("11 by of " + shelf, -12, ear -> ear.by(shelf, 0));
            add("12 next of " + shelf, -12, ear -> ear.next(shelf, 1, 0));
            add("13 stay of " + shelf, -12, ear -> ear.stay(shelf, 0));
            add("15 giveUp of " + shelf, -12, ear -> ear.giveUp(shelf, 0, 0));
            add("17 dead of " + shelf, -12, ear -> ear.dead(shelf));
            add("20 strangers of " + shelf, -12, ear -> ear.strangers(shelf, 1));
            add("23 drawn of " + shelf, -12, ear -> ear.drawn(shelf, 1, 1, 0));
            add("40 shift to " + shelf, -12, ear -> ear.shift(0, 0, shelf, 0, 0));
            add("40 shift from " + shelf + ", ahead of -13", -12, ear -> ear.shift(shelf, -1, 0, -1, -1));
            add("40 shift of nothing to " + shelf, -11, ear -> ear.shift(4, 0, shelf, 0, 0));
            add("40 shift to nothing from " + shelf, -11, ear -> ear.shift(shelf, 0, 4, 0, 0));
        }
        add("38 put, ahead of -13", -12, ear -> ear.put(1, -1, 1));
        add("39 element", NONE, ear -> ear.element(1, 0));
        for (int shelf : new int[] {0, 2, 3, 5}) add("41 taken of a ROW", -12, ear -> ear.taken(shelf, 0));
        for (int k : new int[] {1, 2, 3, 4, 5, 7}) add("41 taken for " + k, -12, ear -> ear.taken(1, k));
        add("41 taken of nothing", -11, ear -> ear.taken(4, 0));
    }

    private static void notThere() {
        for (int i : new int[] {-1, 4, 60, MOST, LEAST}) {
            add("38 put " + i, -13, ear -> ear.put(2, i, 1));
            add("39 element " + i, NONE, ear -> ear.element(2, i));
            add("40 shift from " + i, -13, ear -> ear.shift(2, i, 2, 0, 1));
            add("40 shift to " + i, -13, ear -> ear.shift(2, 0, 2, i, 1));
        }
        for (int n : new int[] {-1, 5, MOST, LEAST}) add("40 shift n " + n, -13, ear -> ear.shift(2, 0, 2, 0, n));
        add("40 shift of 0 beyond", -13, ear -> ear.shift(2, 5, 2, 0, 0));
        add("40 shift of 0 at the end", 0, ear -> ear.shift(2, 4, 2, 4, 0));
        for (int i : new int[] {-1, -3, 7, 5, MOST, LEAST}) add("3 places from " + i, 0, ear -> ear.places(5, i, 8));
    }

    private static void refusedWhenFull() {
        add("2 place", FULL, ear -> ear.place(0, 0));
        add("2 place, BAD ahead of FULL", BAD, ear -> ear.place(0, 100));
        add("3 places: none came", 0, ear -> ear.places(0, 0, 2));
        add("33 body", FULL, ear -> ear.body(0));
        add("33 body, BAD ahead of FULL", BAD, ear -> ear.body(8));
        add("14 best of seven", STATE, ear -> ear.best(127, 1, -1));
        add("14 best of eight", STATE, ear -> ear.best(255, 1, 7));
        add("14 best of seven, BAD ahead of STATE", BAD, ear -> ear.best(127, 100, -1));
        add("14 best of seven, NOT ahead of STATE", NOT, ear -> ear.best(127, 1, 7));
        add("14 best of nine", BAD, ear -> ear.best(511, 1, -1));
    }

    private static void refusedWhenLate() {
        add("24 go", STATE, ear -> ear.go(0));
        add("24 go", STATE, ear -> ear.go(2));
        add("24 go, BAD ahead of STATE", BAD, ear -> ear.go(3));
        add("25 listen 10", STATE, ear -> ear.listen(10));
        add("25 listen 99", STATE, ear -> ear.listen(99));
        add("25 listen 100, BAD ahead of STATE", BAD, ear -> ear.listen(100));
    }

    /** What is asked alone changes nothing either: each is asked twice, and answers the same. */
    private static void askedAlone() {
        List<Call> asked = List.of(
            ear -> ear.of(0, 2), ear -> ear.of(1, 14), ear -> ear.of(1, 15), ear -> ear.hears(1, 2003),
            ear -> ear.round(0, 0), ear -> ear.round(0, -1), ear -> ear.ifNot(0, 0), ear -> ear.ifNot(0, 1),
            ear -> ear.by(0, 1), ear -> ear.by(0, 500000), ear -> ear.next(0, 9, 0), ear -> ear.next(0, 9, 1),
            ear -> ear.stay(0, 100), ear -> ear.best(7, 9, -1), ear -> ear.best(7, 9, 2), ear -> ear.giveUp(0, 500003, 0),
            ear -> ear.giveUp(0, 500003, 1), ear -> ear.seen(40, 40), ear -> ear.dead(0), ear -> ear.buy(20, 0),
            ear -> ear.buy(20, 1), ear -> ear.waits(20), ear -> ear.strangers(0, 0), ear -> ear.strangers(0, 2),
            ear -> ear.worn(999), ear -> ear.grass(3030, 0), ear -> ear.grass(3030, 1), ear -> ear.drawn(0, 9, 30, 0),
            ear -> ear.drawn(0, 9, 30, 1), ear -> ear.led(0), ear -> ear.led(3), ear -> ear.trace(9),
            ear -> ear.element(2, 3), ear -> ear.taken(1, 0), ear -> ear.count(2));
        forget();
        for (int i = 0; i < asked.size(); i++) {
            Call call = asked.get(i);
            add("asked alone: " + i, call.on(withAll()), ear -> call.on(ear) == call.on(ear) ? call.on(ear) : NONE);
        }
        check("with all", RefusalsTest::withAll);
    }
}
