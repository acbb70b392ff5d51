/**
 * Sections 1 and 2 of the terms: PLACES, numbers, ROUNDS and SHARES, and what is told behind a ROUND.
 * Each sentence that names an edge has a function of its own here, which quotes it.
 */
public final class RoundEdgesTest {
    public static void main(String[] args) {
        placesAsTheyCome();
        numbersAtTheirEnds();
        numbersAtFirst();
        beepsFromMinute0On();
        roundBeginsAtPlace0();
        roundWithoutPlaces();
        waysAreCutUp();
        endsWithWhatLacks();
        endsWithAPlaceThatIsNone();
        endsWithMinutesThatAreNotSo();
        endsBehindMinute999();
        sharesAreCut();
        sharesOfNothing();
        listeningIsCut();
        behindARound();
        likeliestOfLikeOnes();
        ifNotOfNothing();
        lastMillionth();
        byAtOnce();
        byNever();
        nextOfLikeOnes();
        nextBeyondMinute999();
        nextOfNMinutes();
        stayUpTo99();
        stayAt999();
        stayAtNoPlace();
        bestOfSixAtMost();
        bestOfLikeOnes();
        bestFromPlace0();
        bestBeyondMinute999();
        giveUpAtTheEnds();
        giveUpOfLikeOnes();
        seenWithin();
        deadAsTwelfths();
        deadOfNothing();
        Checks.end("RoundEdgesTest");
    }

    private static OneEarOfTwo yard(String law, int... xyAndOdds) {
        OneEarOfTwo ear = Checks.withPlaces(xyAndOdds);
        Checks.due("the law stands", Checks.tell(ear, law), 1);
        return ear;
    }

    /** On SHELF 0 so many times 99 minutes at PLACE 0, then what is told. */
    private static void layLong(OneEarOfTwo ear, int times, int... behind) {
        int[] bytes = new int[2 * times + behind.length];
        for (int i = 0; i < times; i++) bytes[2 * i + 1] = 99;
        System.arraycopy(behind, 0, bytes, 2 * times, behind.length);
        Checks.lay(ear, 0, bytes);
    }

    /** "PLACES 0 .. 7, as they come" */
    private static void placesAsTheyCome() {
        OneEarOfTwo ear = new OneEarOfTwo();
        Checks.due("no PLACE yet", ear.of(0, 0), -1);
        for (int p = 0; p < 8; p++) {
            Checks.due("PLACE " + p, ear.place(p, p), p);
            Checks.due("PLACE " + p + " is there", ear.of(p, 0), p);
            Checks.due("none behind PLACE " + p, ear.of(p + 1, 0), -1);
        }
        Checks.due("a ninth", ear.place(0, 0), -3);
        Checks.due("no PLACE 8", ear.mend(8, 2, 1), -1);
        Checks.due("no PLACE below 0", ear.mend(-1, 2, 1), -1);
        Checks.due("eight", ear.count(0), 8);
    }

    /** "X, Y (0 .. 99 yards), ODDS (0 .. 99 ..), HUSH (0 .. 9 ..), DEEP (0 .. 9 ..). GONE (0 .. 99 ..). CURRENT (0 .. 999
     *  minutes ..). PACE (1 .. 99 ..)", "SINGLE (0 .. 9999 ..), PAIR (likewise ..), UNEVEN (likewise ..), LOSS (0 .. 12 ..)",
     *  "WEAR minutes (1 .. 99 ..), FILL (1 .. 99 ..)" */
    private static void numbersAtTheirEnds() {
        String[] names = {"X", "Y", "ODDS", "HUSH", "DEEP", "GONE", "CURRENT", "PACE", "SINGLE", "PAIR", "LOSS", "UNEVEN",
            "WEAR", "FILL"};
        int[] least = {0, 0, 0, 0, 0, 0, 0, 1, 0, 0, 0, 0, 1, 1};
        int[] most = {99, 99, 99, 9, 9, 99, 999, 99, 9999, 9999, 12, 9999, 99, 99};
        OneEarOfTwo ear = Checks.withPlaces(5050, 50);
        for (int what = 0; what < 14; what++) {
            ear.mend(0, what, most[what] / 2);
            for (int v : new int[] {least[what] - 1, most[what] + 1, Integer.MIN_VALUE, Integer.MAX_VALUE}) {
                Checks.due(names[what] + " " + v, ear.mend(0, what, v), -1);
                Checks.due(names[what] + " stays", ear.of(0, what), most[what] / 2);
            }
            Checks.due(names[what] + " was", ear.mend(0, what, least[what]), most[what] / 2);
            Checks.due(names[what] + " the least", ear.of(0, what), least[what]);
            Checks.due(names[what] + " was", ear.mend(0, what, most[what]), least[what]);
            Checks.due(names[what] + " the most", ear.of(0, what), most[what]);
        }
    }

    /** "5 at first", "0 at first", "180 at first", "20 at first", "60 at first ..; 90 ..; 20 ..; 3", "60 at first", "20" */
    private static void numbersAtFirst() {
        int[] first = {0, 180, 20, 60, 90, 3, 20, 60, 20};
        OneEarOfTwo ear = new OneEarOfTwo();
        for (int i = 0; i < first.length; i++) Checks.due("at first: " + (5 + i), ear.of(0, 5 + i), first[i]);
        ear.place(0, 0);
        ear.mend(0, 3, 8);
        ear.mend(0, 4, 7);
        ear.place(0, 0);
        Checks.due("HUSH at first", ear.of(1, 3), 5);
        Checks.due("DEEP at first", ear.of(1, 4), 0);
    }

    /** "CURRENT (.. so long it beeps from minute 0 on)" */
    private static void beepsFromMinute0On() {
        OneEarOfTwo ear = Checks.withPlaces(0, 99);
        ear.mend(0, 6, 2);
        Checks.lay(ear, 0, 0, 3);
        // 7 twelfths of a million are left, 7 of those, then 11: 583333, 340277, 311920
        Checks.due("two minutes it beeps, then it is dead", ear.round(0, 0), 311920);
        ear.mend(0, 6, 0);
        Checks.due("dead from the first on", ear.round(0, 0), 770253);
        ear.mend(0, 6, 3);
        Checks.due("it beeps in all three", ear.round(0, 0), 198494);
    }

    /** "it begins at minute 0 at PLACE 0's X, Y" */
    private static void roundBeginsAtPlace0() {
        OneEarOfTwo ear = yard("m=0?12;0", 10, 1, 50, 1);
        Checks.lay(ear, 0, 0, 1);
        Checks.due("at PLACE 0: minute", ear.round(0, -2), 1);
        Checks.due("at PLACE 0: found in minute 0", ear.round(0, -1), 500000);
        Checks.lay(ear, 0, 1, 1);
        Checks.due("to PLACE 1: minute", ear.round(0, -2), 3);
        Checks.due("to PLACE 1: minute 0 is past", ear.round(0, -1), 0);
        ear.mend(0, 0, 50);
        Checks.due("PLACE 0 lies there too", ear.round(0, -2), 1);
    }

    /** "(without PLACES: none)" */
    private static void roundWithoutPlaces() {
        OneEarOfTwo ear = new OneEarOfTwo();
        Checks.lay(ear, 0, 0, 1, 0, 1);
        for (int told = -3; told < 0; told++) Checks.due("without PLACES " + told, ear.round(0, told), 0);
        Checks.due("without PLACES by(0)", ear.by(0, 0), 0);
        Checks.due("without PLACES by(1)", ear.by(0, 1), -2);
        Checks.due("without PLACES next()", ear.next(0, 1, 0), -2);
        Checks.due("without PLACES stay()", ear.stay(0, 0), -2);
        Checks.due("without PLACES dead()", ear.dead(0), -2);
        Checks.due("without PLACES giveUp()", ear.giveUp(0, 999900, 0), 0);
        Checks.due("without PLACES drawn()", ear.drawn(0, 1, 30, 0), 0);
    }

    private static void way(int x, int y, int pace, int minutes) {
        OneEarOfTwo ear = Checks.withPlaces(0, 1, 100 * y + x, 1);
        ear.mend(0, 7, pace);
        Checks.lay(ear, 0, 1, 1);
        Checks.due(x + " and " + y + " yards by " + pace, ear.round(0, -2), minutes + 1);
        Checks.lay(ear, 0, 1, 1, 0, 1);
        Checks.due(x + " and " + y + " yards by " + pace + ", and back", ear.round(0, -2), 2 * minutes + 2);
    }

    /** "as many yards as X and Y are apart together by PACE minutes (cut up)" */
    private static void waysAreCutUp() {
        way(0, 0, 20, 0);
        way(1, 0, 20, 1);
        way(0, 1, 20, 1);
        way(19, 0, 20, 1);
        way(20, 0, 20, 1);
        way(10, 10, 20, 1);
        way(20, 1, 20, 2);
        way(39, 2, 20, 3);
        way(99, 99, 1, 198);
        way(99, 99, 99, 2);
        way(99, 0, 99, 1);
        way(99, 1, 99, 2);
        way(99, 99, 98, 3);
        way(1, 0, 99, 1);
    }

    /** "it ends with what lacks" */
    private static void endsWithWhatLacks() {
        OneEarOfTwo ear = Checks.withPlaces(0, 1);
        Checks.lay(ear, 0);
        Checks.due("an empty ROW", ear.round(0, -3), 0);
        Checks.due("an empty ROW", ear.round(0, -2), 0);
        Checks.due("an empty ROW", ear.round(0, 0), 1000000);
        Checks.lay(ear, 0, 0);
        Checks.due("one byte", ear.round(0, -3), 0);
        Checks.lay(ear, 0, 0, 7);
        Checks.due("two bytes", ear.round(0, -3), 1);
        Checks.lay(ear, 0, 0, 7, 0);
        Checks.due("three bytes", ear.round(0, -3), 1);
        Checks.due("three bytes", ear.round(0, -2), 7);
        int[] most = new int[60];
        for (int i = 1; i < 60; i += 2) most[i] = 2;
        Checks.lay(ear, 0, most);
        Checks.due("60 bytes", ear.round(0, -3), 30);
        Checks.due("60 bytes", ear.round(0, -2), 60);
        ear.put(0, 59, 0);
        Checks.due("the last of 60 lacks", ear.round(0, -3), 29);
    }

    private static void endsWith(String what, int place, int minutes) {
        OneEarOfTwo ear = Checks.withPlaces(0, 1, 40, 1);
        Checks.lay(ear, 0, 0, 2, place, minutes, 0, 1);
        Checks.due("it ends with " + what, ear.round(0, -3), 1);
        Checks.due("no way to " + what, ear.round(0, -2), 2);
        Checks.lay(ear, 0, place, minutes, 0, 1);
        Checks.due("it ends at once with " + what, ear.round(0, -3), 0);
        Checks.due("no way to " + what, ear.round(0, -2), 0);
        Checks.due("one is at no PLACE by " + what, ear.dead(0), -2);
    }

    /** "a PLACE that is none" */
    private static void endsWithAPlaceThatIsNone() {
        endsWith("PLACE 2", 2, 1);
        endsWith("PLACE 8", 8, 1);
        endsWith("PLACE 127", 127, 1);
        endsWith("PLACE -1", -1, 1);
        endsWith("PLACE -128", -128, 1);
    }

    /** "minutes (1 .. 99)", "minutes that are not so" */
    private static void endsWithMinutesThatAreNotSo() {
        endsWith("0 minutes", 1, 0);
        endsWith("100 minutes", 1, 100);
        endsWith("127 minutes", 1, 127);
        endsWith("-1 minutes", 1, -1);
        endsWith("-128 minutes", 1, -128);
        OneEarOfTwo ear = Checks.withPlaces(0, 1);
        Checks.lay(ear, 0, 0, 1, 0, 99);
        Checks.due("1 and 99 minutes", ear.round(0, -2), 100);
    }

    /** "or behind minute 999 (a listening that would end beyond it is none, and ends it)" */
    private static void endsBehindMinute999() {
        OneEarOfTwo ear = Checks.withPlaces(0, 1, 20, 1);
        layLong(ear, 10, 0, 9, 0, 1);
        Checks.due("up to 999", ear.round(0, -2), 999);
        Checks.due("up to 999", ear.round(0, -3), 11);
        layLong(ear, 10, 0, 10, 0, 1);
        Checks.due("one that would end at 1000 is none", ear.round(0, -2), 990);
        Checks.due("and ends it, though a shorter one lies behind", ear.round(0, -3), 10);
        layLong(ear, 10, 1, 8, 1, 1);
        Checks.due("up to 999 with the way", ear.round(0, -2), 999);
        Checks.due("up to 999 with the way", ear.round(0, -3), 11);
        layLong(ear, 10, 1, 9);
        Checks.due("up to 1000 with the way", ear.round(0, -2), 990);
        Checks.due("up to 1000 with the way", ear.round(0, -3), 10);
        Checks.due("nothing is listened there", ear.round(0, 1), 500000);
    }

    /** "1000000 times ODDS by all ODDS and GONE together (cut ..)" */
    private static void sharesAreCut() {
        OneEarOfTwo ear = Checks.withPlaces(0, 1, 0, 1, 0, 1);
        Checks.lay(ear, 0);
        for (int p = 0; p < 3; p++) Checks.due("a third", ear.round(0, p), 333333);
        ear.mend(0, 2, 99);
        Checks.due("99 of 101", ear.round(0, 0), 980198);
        Checks.due("1 of 101", ear.round(0, 1), 9900);
        ear.mend(0, 5, 99);
        Checks.due("99 of 200", ear.round(0, 0), 495000);
        ear.mend(1, 2, 0);
        Checks.due("0 of 199", ear.round(0, 1), 0);
        OneEarOfTwo eight = Checks.withPlaces(0, 99, 0, 99, 0, 99, 0, 99, 0, 99, 0, 99, 0, 99, 0, 99);
        eight.mend(0, 5, 99);
        Checks.lay(eight, 0);
        for (int p = 0; p < 8; p++) Checks.due("a ninth", eight.round(0, p), 111111);
        Checks.due("GONE's share is cut likewise", eight.ifNot(0, 1), 111111);
    }

    /** "(.. all 0: 0)" */
    private static void sharesOfNothing() {
        OneEarOfTwo ear = Checks.withPlaces(0, 0, 0, 0);
        Checks.lay(ear, 0, 0, 9, 1, 9);
        Checks.due("all 0", ear.round(0, 0), 0);
        Checks.due("all 0", ear.round(0, 1), 0);
        Checks.due("all 0: nothing is found", ear.round(0, -1), 0);
        Checks.due("all 0: grass", ear.grass(0, 1), 0);
        Checks.due("all 0: again", ear.again(), 0);
        Checks.due("all 0: best", ear.best(3, 9, -1), 0);
        ear.mend(0, 5, 1);
        Checks.due("GONE alone", ear.round(0, 0), 0);
        ear.mend(1, 2, 1);
        Checks.due("one of two", ear.round(0, 0), 0);
        Checks.lay(ear, 0);
        Checks.due("one of two", ear.round(0, 1), 500000);
    }

    /** "leaves of its share that times (12 less what THE LAW gives) by 12 (cut); what goes is FOUND" */
    private static void listeningIsCut() {
        OneEarOfTwo ear = yard("0", 0, 1, 0, 6);
        Checks.lay(ear, 0, 0, 1);
        Checks.due("0 of twelve", ear.round(0, 0), 142857);
        Checks.due("0 of twelve", ear.round(0, -1), 0);
        Checks.tell(ear, "12");
        Checks.due("12 of twelve", ear.round(0, 0), 0);
        Checks.due("12 of twelve", ear.round(0, -1), 142857);
        Checks.tell(ear, "1");
        Checks.due("1 of twelve", ear.round(0, 0), 130952);
        Checks.due("1 of twelve", ear.round(0, -1), 11905);
        Checks.tell(ear, "11");
        Checks.due("11 of twelve", ear.round(0, 0), 11904);
        Checks.lay(ear, 0, 0, 5);
        Checks.due("11 of twelve, down to nothing", ear.round(0, 0), 0);
        Checks.lay(ear, 0, 0, 4);
        Checks.due("992, 82, 6", ear.round(0, 0), 6);
    }

    /** "SHARES (what is left of each, not grown); FOUND (all that went); the minute; how many twos count" */
    private static void behindARound() {
        OneEarOfTwo ear = yard("6", 0, 1, 0, 1);
        Checks.lay(ear, 0, 0, 1);
        Checks.due("the other is not grown", ear.round(0, 1), 500000);
        Checks.due("the same not either", ear.round(0, 0), 250000);
        Checks.due("no PLACE 2", ear.round(0, 2), -1);
        Checks.due("nothing below -3", ear.round(0, -4), -1);
        Checks.due("FOUND", ear.round(0, -1), 250000);
        Checks.due("the minute", ear.round(0, -2), 1);
        Checks.due("the twos", ear.round(0, -3), 1);
    }

    /** "(of like ones the least; NOT: all SHARES are 0)" */
    private static void likeliestOfLikeOnes() {
        OneEarOfTwo ear = yard("12", 0, 4, 0, 5, 0, 5);
        Checks.lay(ear, 0);
        Checks.due("of like ones the least", ear.ifNot(0, 0), 1);
        Checks.lay(ear, 0, 1, 1);
        Checks.due("the other", ear.ifNot(0, 0), 2);
        Checks.lay(ear, 0, 1, 1, 2, 1);
        Checks.due("the last", ear.ifNot(0, 0), 0);
        Checks.lay(ear, 0, 1, 1, 2, 1, 0, 1);
        Checks.due("all SHARES are 0", ear.ifNot(0, 0), -2);
        ear.mend(0, 5, 99);
        Checks.due("all SHARES are 0, though GONE is not", ear.ifNot(0, 0), -2);
        Checks.lay(ear, 0);
        Checks.due("GONE is no PLACE, however likely", ear.ifNot(0, 0), 1);
        OneEarOfTwo none = new OneEarOfTwo();
        Checks.lay(none, 0);
        Checks.due("no PLACES", none.ifNot(0, 0), -2);
    }

    /** "by how many millionths of what is left of all PLACES and GONE's share (likewise cut; together 0: 0)" */
    private static void ifNotOfNothing() {
        OneEarOfTwo ear = yard("12", 0, 1, 0, 1);
        ear.mend(0, 5, 1);
        Checks.lay(ear, 0);
        Checks.due("a third of 999999", ear.ifNot(0, 1), 333333);
        Checks.lay(ear, 0, 1, 1);
        Checks.due("half of what is left", ear.ifNot(0, 1), 500000);
        Checks.lay(ear, 0, 1, 1, 0, 1);
        Checks.due("GONE alone is left", ear.ifNot(0, 1), 0);
        ear.mend(0, 5, 0);
        Checks.due("together 0", ear.ifNot(0, 1), 0);
        Checks.lay(ear, 0, 0, 1);
        Checks.due("one alone is left", ear.ifNot(0, 1), 1000000);
        OneEarOfTwo cut = yard("0", 0, 2, 0, 4);
        cut.mend(0, 5, 1);
        Checks.lay(cut, 0);
        // 285714, 571428, 142857: 999999 together
        Checks.due("cut likewise", cut.ifNot(0, 1), 571428);
        OneEarOfTwo none = new OneEarOfTwo();
        Checks.lay(none, 0);
        Checks.due("no PLACES: together 0", none.ifNot(0, 1), 0);
    }

    /** One millionth is left, then nothing: all of what is left, then "together 0", "all are 0" */
    private static void lastMillionth() {
        // 83333, 6944, 578, 48, 4, then a quarter of that, then nothing
        OneEarOfTwo ear = yard("k=5?9;11", 0, 1);
        Checks.lay(ear, 0, 0, 6);
        Checks.due("one millionth", ear.round(0, 0), 1);
        Checks.due("where", ear.ifNot(0, 0), 0);
        Checks.due("it is all", ear.ifNot(0, 1), 1000000);
        Checks.due("it is all", ear.dead(0), 12);
        Checks.due("found but for it", ear.by(0, 999999), 6);
        Checks.due("not all", ear.by(0, 1000000), -2);
        Checks.lay(ear, 0, 0, 7);
        Checks.due("nothing", ear.round(0, 0), 0);
        Checks.due("nowhere", ear.ifNot(0, 0), -2);
        Checks.due("together 0", ear.ifNot(0, 1), 0);
        Checks.due("all are 0", ear.dead(0), -2);
        Checks.due("all", ear.by(0, 1000000), 7);
        Checks.due("nothing more to find", ear.stay(0, 1), 0);
    }

    /** "the first minute of it by which FOUND is v (0 .. 1000000) or more (0: at once)" */
    private static void byAtOnce() {
        OneEarOfTwo ear = yard("12", 20, 1, 0, 1);
        Checks.lay(ear, 0, 1, 2, 0, 2);
        Checks.due("0: at once", ear.by(0, 0), 0);
        Checks.due("1: behind the first minute there", ear.by(0, 1), 2);
        Checks.due("as much as is found", ear.by(0, 500000), 2);
        Checks.due("one more", ear.by(0, 500001), 5);
        Checks.due("all", ear.by(0, 1000000), 5);
        Checks.lay(ear, 0);
        Checks.due("0: at once, though the ROUND is empty", ear.by(0, 0), 0);
        Checks.due("v below", ear.by(0, -1), -1);
        Checks.due("v above", ear.by(0, 1000001), -1);
    }

    /** "BY: ..; NOT." */
    private static void byNever() {
        OneEarOfTwo ear = yard("12", 0, 1, 0, 1);
        Checks.lay(ear, 0, 0, 9);
        Checks.due("as far as it goes", ear.by(0, 500000), 1);
        Checks.due("beyond that", ear.by(0, 500001), -2);
        Checks.due("all", ear.by(0, 1000000), -2);
        Checks.lay(ear, 0);
        Checks.due("an empty ROUND", ear.by(0, 1), -2);
        Checks.tell(ear, "m=998?12;0");
        layLong(ear, 10, 0, 9);
        Checks.due("in the last minute of all", ear.by(0, 500000), 999);
        layLong(ear, 10, 0, 8);
        Checks.due("not in that before it", ear.by(0, 500000), -2);
    }

    /** "growth times 1000 by minutes, cut; of like ones the least" */
    private static void nextOfLikeOnes() {
        OneEarOfTwo ear = yard("12", 0, 1, 0, 3, 0, 3, 0, 2);
        Checks.lay(ear, 0);
        Checks.due("of like ones the least", ear.next(0, 7, 0), 1);
        Checks.due("333333 in 7 minutes, cut", ear.next(0, 7, 1), 47619000);
        Checks.due("333333 in 99 minutes, cut", ear.next(0, 99, 1), 3367000);
        Checks.due("333333 in 1 minute", ear.next(0, 1, 1), 333333000);
        OneEarOfTwo sure = yard("12", 0, 1);
        Checks.lay(sure, 0);
        Checks.due("all in 1 minute", sure.next(0, 1, 1), 1000000000);
        Checks.due("all in 3 minutes, cut", sure.next(0, 3, 1), 333333333);
        OneEarOfTwo way = yard("12", 0, 2, 60, 5);
        Checks.lay(way, 0);
        // 285714 in 2 minutes, 714285 in 2 + 3
        Checks.due("way and listening together", way.next(0, 2, 1), 142857000);
        Checks.due("way and listening together", way.next(0, 2, 0), 0);
        Checks.due("the way is less by more minutes", way.next(0, 3, 0), 1);
        Checks.due("the way is less by more minutes", way.next(0, 3, 1), 119047500);
        Checks.tell(way, "0");
        Checks.due("growth 0 is one too: the least", way.next(0, 3, 0), 0);
        Checks.due("growth 0 is one too", way.next(0, 3, 1), 0);
    }

    /** "a listening beyond minute 999 is none", "NOT" */
    private static void nextBeyondMinute999() {
        OneEarOfTwo ear = yard("p", 0, 1, 20, 1);
        layLong(ear, 10);
        Checks.due("up to 999 with the way", ear.next(0, 8, 0), 1);
        Checks.due("up to 1000 with the way", ear.next(0, 9, 0), 0);
        Checks.due("up to 1000 with the way: growth of the other", ear.next(0, 9, 1), 0);
        Checks.due("up to 1000", ear.next(0, 10, 0), -2);
        Checks.due("up to 1000", ear.next(0, 10, 1), -2);
        layLong(ear, 10, 0, 9);
        Checks.due("at 999", ear.next(0, 1, 0), -2);
        Checks.due("at 999", ear.next(0, 1, 1), -2);
        OneEarOfTwo none = new OneEarOfTwo();
        Checks.lay(none, 0);
        Checks.due("no PLACES", none.next(0, 1, 0), -2);
        Checks.due("no PLACES", none.next(0, 1, 1), -2);
    }

    /** "to listen n minutes (1 .. 99)" */
    private static void nextOfNMinutes() {
        OneEarOfTwo ear = yard("1", 0, 1);
        Checks.lay(ear, 0);
        Checks.due("n 0", ear.next(0, 0, 0), -1);
        Checks.due("n -1", ear.next(0, -1, 0), -1);
        Checks.due("n 100", ear.next(0, 100, 0), -1);
        Checks.due("n 1", ear.next(0, 1, 1), 83334000);
        Checks.due("n 99", ear.next(0, 99, 0), 0);
    }

    /** "how many minutes more (0 .. 99) .. till the next minute finds less than v ..; 99, if each of the next 99 finds as much" */
    private static void stayUpTo99() {
        OneEarOfTwo ear = yard("6", 0, 1);
        Checks.lay(ear, 0, 0, 1);
        Checks.due("less than v at once", ear.stay(0, 250001), 0);
        Checks.due("as much as v is not less", ear.stay(0, 250000), 1);
        Checks.due("less than v behind one", ear.stay(0, 125001), 1);
        Checks.due("behind two", ear.stay(0, 125000), 2);
        Checks.due("v 0: nothing is less", ear.stay(0, 0), 99);
        Checks.due("the greatest v", ear.stay(0, 999999), 0);
        Checks.due("v above", ear.stay(0, 1000000), -1);
        Checks.due("v below", ear.stay(0, -1), -1);
        Checks.tell(ear, "k=0?0;1");
        Checks.due("as far as something is found", ear.stay(0, 1), 99);
        Checks.tell(ear, "k=99?0;1");
        Checks.due("the last of 99 finds nothing", ear.stay(0, 1), 98);
        Checks.tell(ear, "k=100?0;1");
        Checks.due("the one behind 99 does not count", ear.stay(0, 1), 99);
        Checks.tell(ear, "k=1?0;1");
        Checks.due("the first finds nothing", ear.stay(0, 1), 0);
    }

    /** "(one that begins at 999 or later finds nothing)" */
    private static void stayAt999() {
        OneEarOfTwo ear = yard("m<989?0;1", 0, 1);
        layLong(ear, 10);
        Checks.due("990 .. 998", ear.stay(0, 1), 9);
        Checks.due("v 0, though nothing is found", ear.stay(0, 0), 99);
        layLong(ear, 10, 0, 8);
        Checks.due("998", ear.stay(0, 1), 1);
        layLong(ear, 10, 0, 9);
        Checks.due("999", ear.stay(0, 1), 0);
        Checks.due("999, v 0", ear.stay(0, 0), 99);
        layLong(ear, 9, 0, 9);
        Checks.tell(ear, "m<900?0;1");
        Checks.due("900 .. 998", ear.stay(0, 1), 99);
        layLong(ear, 9, 0, 10);
        Checks.due("901 .. 998", ear.stay(0, 1), 98);
    }

    /** "NOT: one is at no PLACE (the ROUND is empty)" */
    private static void stayAtNoPlace() {
        OneEarOfTwo ear = yard("1", 0, 1);
        Checks.lay(ear, 0);
        Checks.due("an empty ROW", ear.stay(0, 0), -2);
        Checks.lay(ear, 0, 0);
        Checks.due("what lacks", ear.stay(0, 0), -2);
        Checks.lay(ear, 0, 1, 1, 0, 1);
        Checks.due("a PLACE that is none", ear.stay(0, 0), -2);
        Checks.lay(ear, 0, 0, 1, 1, 1);
        Checks.due("ended behind one", ear.stay(0, 0), 99);
    }

    private static OneEarOfTwo eight() {
        return yard("12", 0, 1, 0, 1, 0, 1, 0, 1, 0, 1, 0, 1, 0, 1, 0, 1);
    }

    /** "some PLACES (bits; 6 at most, else STATE), n minutes at each" */
    private static void bestOfSixAtMost() {
        OneEarOfTwo ear = eight();
        Checks.due("none", ear.best(0, 1, -1), 0);
        Checks.due("none: the first of them", ear.best(0, 1, 0), -2);
        Checks.due("one", ear.best(128, 1, -1), 125000);
        Checks.due("one", ear.best(128, 1, 0), 7);
        Checks.due("six", ear.best(63, 1, -1), 750000);
        Checks.due("the last six", ear.best(252, 99, 5), 7);
        Checks.due("seven", ear.best(127, 1, -1), -5);
        Checks.due("seven others", ear.best(254, 1, 0), -5);
        Checks.due("eight", ear.best(255, 1, -1), -5);
        Checks.due("a ninth PLACE", ear.best(256, 1, -1), -1);
        Checks.due("BAD ahead of STATE", ear.best(511, 1, -1), -1);
        Checks.due("set below 0", ear.best(-1, 1, -1), -1);
        Checks.due("set below 0", ear.best(Integer.MIN_VALUE, 1, -1), -1);
        Checks.due("n 0", ear.best(1, 0, -1), -1);
        Checks.due("n 100", ear.best(1, 100, -1), -1);
        Checks.due("n 0 ahead of STATE", ear.best(127, 0, -1), -1);
        Checks.due("n 99", ear.best(1, 99, -1), 125000);
        Checks.due("k -2", ear.best(1, 1, -2), -1);
        Checks.due("k beyond", ear.best(3, 1, 2), -2);
        for (int k = 2; k < 8; k++) Checks.due("k " + k, ear.best(3, 1, k), -2);
        Checks.due("k far beyond", ear.best(3, 1, Integer.MAX_VALUE), -2);
        Checks.due("a PLACE that is none", Checks.withPlaces(0, 1).best(2, 1, -1), -1);
    }

    /** "of all orders .. that by which FOUND is most (of like ones the first by numbers)" */
    private static void bestOfLikeOnes() {
        OneEarOfTwo ear = eight();
        for (int k = 0; k < 6; k++) Checks.due("all are like: the " + k + "th", ear.best(252, 1, k), k + 2);
        // what is found at 5 counts in minute 2 alone: of the orders with it third, 2 3 5 4 is the first
        Checks.tell(ear, "p=5&!(m=2)?0;12");
        Checks.due("it is found in all four", ear.best(60, 1, -1), 500000);
        int[] third = {2, 3, 5, 4};
        for (int k = 0; k < 4; k++) Checks.due("third: the " + k + "th", ear.best(60, 1, k), third[k]);
        Checks.tell(ear, "p=4&!(m=0)?0;12");
        int[] first = {4, 2, 3, 5};
        Checks.due("it is found in all four", ear.best(60, 1, -1), 500000);
        for (int k = 0; k < 4; k++) Checks.due("first: the " + k + "th", ear.best(60, 1, k), first[k]);
        Checks.tell(ear, "0");
        Checks.due("nothing is found", ear.best(60, 1, -1), 0);
        for (int k = 0; k < 4; k++) Checks.due("nothing is found: the " + k + "th", ear.best(60, 1, k), k + 2);
    }

    /** "BEST ROUND": as a ROUND does, each begins at minute 0 at PLACE 0's X, Y, with nothing listened */
    private static void bestFromPlace0() {
        OneEarOfTwo ear = yard("m=2?12;0", 0, 1, 40, 1, 80, 2);
        Checks.due("PLACE 1 from minute 2 on", ear.best(2, 1, -1), 250000);
        Checks.due("PLACE 2 from minute 4 on", ear.best(4, 1, -1), 0);
        Checks.due("PLACE 0 till minute 2", ear.best(1, 3, -1), 250000);
        Checks.due("1 then 2, or 2 then 1", ear.best(6, 1, 0), 1);
        Checks.tell(ear, "m=4?12;0");
        Checks.due("2 first", ear.best(6, 1, -1), 500000);
        Checks.due("2 first", ear.best(6, 1, 0), 2);
        Checks.tell(ear, "k=0?12;0");
        Checks.due("k 0", ear.best(7, 1, -1), 1000000);
        Checks.tell(ear, "k=1?12;0");
        Checks.due("k 1 is behind a minute", ear.best(7, 1, -1), 0);
        Checks.due("k 1 behind a minute", ear.best(7, 2, -1), 1000000);
    }

    /** "(.. listenings beyond minute 999 find nothing)" */
    private static void bestBeyondMinute999() {
        OneEarOfTwo ear = yard("12", 0, 0, 0, 10, 9999, 10, 0, 10, 9999, 10, 0, 10);
        ear.mend(0, 7, 1);
        // 1, 3, 5 lie in one corner, 2, 4 in the other, 198 minutes away: there and back is in time, no more
        Checks.due("all found in time", ear.best(62, 99, -1), 1000000);
        int[] order = {1, 2, 4, 3, 5};
        for (int k = 0; k < 5; k++) Checks.due("the " + k + "th", ear.best(62, 99, k), order[k]);
        Checks.tell(ear, "p=1&m?0;p=2&!(m=297)?0;p=3&!(m=594)?0;12");
        // 1 at 0, 2 at 297, 3 at 594, then 4 at 891 would end at 990 and 5 at 1188
        Checks.due("the last is beyond", ear.best(62, 99, -1), 800000);
        int[] ways = {1, 2, 3, 4, 5};
        for (int k = 0; k < 5; k++) Checks.due("the " + k + "th", ear.best(62, 99, k), ways[k]);
        OneEarOfTwo late = yard("p=1&m?0;p=2&!(m=297)?0;p=3&!(m=594)?0;12", 0, 0, 0, 10, 9999, 10, 0, 10, 8, 10, 99, 10);
        late.mend(0, 7, 1);
        // 3 till 693, 4 from 701 till 800, 5 from 891 till 990
        Checks.due("till 990", late.best(62, 99, -1), 1000000);
        late.mend(5, 1, 9);
        Checks.due("till 999", late.best(62, 99, -1), 1000000);
        late.mend(5, 1, 10);
        Checks.due("till 1000", late.best(62, 99, -1), 800000);
    }

    /** "WORTH (0 .. 9999 pence), a minute costs PENCE (0 .. 99): behind how many twos of a ROUND (0 on)" */
    private static void giveUpAtTheEnds() {
        OneEarOfTwo ear = yard("12", 0, 1, 0, 1);
        Checks.lay(ear, 0, 0, 1, 1, 99);
        Checks.due("wp below", ear.giveUp(0, -1, 0), -1);
        Checks.due("wp above", ear.giveUp(0, 1000000, 0), -1);
        Checks.due("WORTH 9999, PENCE 0", ear.giveUp(0, 999900, 0), 2);
        Checks.due("WORTH 9999, PENCE 0", ear.giveUp(0, 999900, 1), 9999);
        // half of 9999 is cut to 4999; behind both 9999 - 9900
        Checks.due("WORTH 9999, PENCE 99", ear.giveUp(0, 999999, 0), 1);
        Checks.due("WORTH 9999, PENCE 99, cut", ear.giveUp(0, 999999, 1), 4900);
        Checks.due("WORTH 0, PENCE 99", ear.giveUp(0, 99, 0), 0);
        Checks.due("WORTH 0, PENCE 99", ear.giveUp(0, 99, 1), 0);
        Checks.due("WORTH 1: half of it is cut", ear.giveUp(0, 100, 0), 2);
        Checks.due("WORTH 1", ear.giveUp(0, 100, 1), 1);
        Checks.lay(ear, 0);
        Checks.due("an empty ROUND", ear.giveUp(0, 999999, 0), 0);
        Checks.due("an empty ROUND", ear.giveUp(0, 999999, 1), 0);
    }

    /** "is most (of like ones the least): that; how much" */
    private static void giveUpOfLikeOnes() {
        OneEarOfTwo ear = yard("k=0?12;0", 0, 1, 0, 1);
        Checks.lay(ear, 0, 0, 1, 0, 1, 1, 1);
        Checks.due("WORTH 0, PENCE 0: at once", ear.giveUp(0, 0, 0), 0);
        Checks.due("nothing more behind the second", ear.giveUp(0, 10000, 0), 3);
        Checks.due("as much behind the third as behind the first", ear.giveUp(0, 10025, 0), 1);
        Checks.due("how much", ear.giveUp(0, 10025, 1), 25);
        Checks.due("as much behind the first as at once", ear.giveUp(0, 10050, 0), 0);
        Checks.due("how much", ear.giveUp(0, 10050, 1), 0);
        Checks.due("a penny a minute less", ear.giveUp(0, 10049, 0), 1);
        Checks.due("how much", ear.giveUp(0, 10049, 1), 1);
    }

    /** "at X, Y within so many yards (0 .. 99; X and Y apart together): which PLACES (bits) are in reach" */
    private static void seenWithin() {
        OneEarOfTwo ear = Checks.withPlaces(5050, 1, 5049, 1, 4950, 1, 5151, 1);
        Checks.due("0 yards", ear.seen(5050, 0), 1);
        Checks.due("1 yard", ear.seen(5050, 1), 7);
        Checks.due("2 yards", ear.seen(5050, 2), 15);
        Checks.due("97 yards", ear.seen(9900, 97), 0);
        Checks.due("98 yards", ear.seen(9900, 98), 2);
        Checks.due("99 yards", ear.seen(9900, 99), 11);
        Checks.due("99 yards from the corner", ear.seen(0, 99), 6);
        Checks.due("yards below", ear.seen(0, -1), -1);
        Checks.due("yards above", ear.seen(0, 100), -1);
        Checks.due("xy below", ear.seen(-1, 0), -1);
        Checks.due("xy above", ear.seen(10000, 0), -1);
        Checks.due("the last xy", ear.seen(9999, 97), 8);
        Checks.due("none in reach", ear.seen(9999, 0), 0);
        Checks.due("no PLACES", new OneEarOfTwo().seen(0, 99), 0);
        Checks.due("all eight", eight().seen(0, 0), 255);
    }

    /** "its SHARE by that of all (others, GONE) as twelfths (cut): 12 times it by all" */
    private static void deadAsTwelfths() {
        OneEarOfTwo ear = yard("0", 0, 1, 0, 1);
        Checks.lay(ear, 0, 0, 1);
        Checks.due("one half", ear.dead(0), 6);
        ear.mend(0, 5, 1);
        Checks.due("333333 of 999999", ear.dead(0), 4);
        ear.mend(0, 5, 11);
        // 76923 of 76923 + 76923 + 846153
        Checks.due("12 of 13, cut", ear.dead(0), 0);
        ear.mend(0, 5, 10);
        // 12 * 83333 are 999996, of 999999
        Checks.due("a twelfth but for what was cut", ear.dead(0), 0);
        ear.mend(0, 5, 9);
        Checks.due("one of 11", ear.dead(0), 1);
        ear.mend(0, 2, 99);
        ear.mend(0, 5, 0);
        Checks.due("99 of 100, cut", ear.dead(0), 11);
        ear.mend(1, 2, 0);
        Checks.due("all", ear.dead(0), 12);
        ear.mend(1, 2, 1);
        ear.mend(0, 2, 0);
        Checks.due("nothing of all", ear.dead(0), 0);
    }

    /** "NOT: all are 0, or one is at no PLACE" */
    private static void deadOfNothing() {
        OneEarOfTwo ear = yard("12", 0, 1, 0, 1);
        Checks.lay(ear, 0);
        Checks.due("at no PLACE", ear.dead(0), -2);
        Checks.lay(ear, 0, 2, 1);
        Checks.due("at no PLACE: it ended at once", ear.dead(0), -2);
        Checks.lay(ear, 0, 0, 1);
        Checks.due("its own is 0", ear.dead(0), 0);
        Checks.lay(ear, 0, 0, 1, 1, 1);
        Checks.due("all are 0", ear.dead(0), -2);
        ear.mend(0, 5, 1);
        Checks.due("GONE is left", ear.dead(0), 0);
        OneEarOfTwo none = Checks.withPlaces(0, 0);
        Checks.lay(none, 0, 0, 1);
        Checks.due("no ODDS at all", none.dead(0), -2);
        none.mend(0, 5, 1);
        Checks.due("GONE alone", none.dead(0), 0);
    }
}
