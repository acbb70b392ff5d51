/**
 * Section 4 of the terms from IN DEED on. Each sentence that names an edge has a function of its own
 * here, which quotes it.
 */
public final class DeedEdgesTest {
    public static void main(String[] args) {
        goBeyond999();
        listenBeyond999();
        listenOneTo99();
        nowAndWays();
        sharesInDeedLessen();
        eachMinuteByTheLaw();
        findInAPlace();
        aheadOfAgain();
        placesThatCameSince();
        againByOddsAsTheyAreThen();
        atNoPlaceAtFirst();
        theseFourEver();
        sameNumberIsNone();
        latestFirst();
        asLongAsNoOtherCame();
        fortyAtMost();
        fortyOfAllSorts();
        deedsAreNone();
        imageKeeps();
        imageOfNothing();
        imageAndPlacesThatCameSince();
        Checks.end("DeedEdgesTest");
    }

    private static OneEarOfTwo yard(String law, int... xyAndOdds) {
        OneEarOfTwo ear = Checks.withPlaces(xyAndOdds);
        Checks.due("the law stands", Checks.tell(ear, law), 1);
        ear.again();
        return ear;
    }

    private static void led(String when, OneEarOfTwo ear, int... want) {
        for (int what = 0; what < want.length; what++) Checks.due(when + ": led " + what, ear.led(what), want[what]);
    }

    private static void listenLong(OneEarOfTwo ear, int times) {
        for (int i = 0; i < times; i++) ear.listen(99);
    }

    /** "GO: NOW then. BAD; STATE: it would be beyond 999." */
    private static void goBeyond999() {
        OneEarOfTwo ear = yard("0", 0, 1, 21, 1, 20, 1);
        Checks.due("no PLACE", ear.go(3), -1);
        Checks.due("no PLACE", ear.go(-1), -1);
        listenLong(ear, 10);
        ear.listen(8);
        Checks.due("it would be 1000", ear.go(1), -5);
        led("refused", ear, 998, 0, 998, 0, 0, 0);
        Checks.due("999", ear.go(2), 999);
        led("at 999", ear, 999, 1, 998, 0, 0, 2);
        Checks.due("to where one is, at 999", ear.go(2), 999);
        led("at 999 once more", ear, 999, 2, 998, 0, 0, 2);
        Checks.due("beyond 999", ear.go(0), -5);
        Checks.due("BAD ahead of STATE", ear.go(3), -1);
    }

    /** "STATE: one is at no PLACE, or it would be beyond 999." */
    private static void listenBeyond999() {
        OneEarOfTwo ear = yard("1", 0, 1);
        listenLong(ear, 10);
        int share = ear.of(0, 14), found = ear.led(3);
        Checks.due("it would be 1000", ear.listen(10), -5);
        led("refused", ear, 990, 0, 990, found, 0, 0);
        Checks.due("the SHARE stays", ear.of(0, 14), share);
        Checks.due("minutes there stay", ear.of(0, 15), 990);
        ear.listen(9);
        led("at 999", ear, 999, 0, 999, found, 0, 0);
        Checks.due("beyond 999", ear.listen(1), -5);
        Checks.due("BAD ahead of STATE", ear.listen(0), -1);
        OneEarOfTwo none = new OneEarOfTwo();
        none.place(0, 1);
        Checks.due("at no PLACE", none.listen(1), -5);
        Checks.due("at no PLACE, BAD", none.listen(100), -1);
    }

    /** "LISTEN n minutes (1 .. 99): how many millionths are FOUND by it" */
    private static void listenOneTo99() {
        OneEarOfTwo ear = yard("6", 0, 1, 0, 1);
        Checks.due("n 0", ear.listen(0), -1);
        Checks.due("n -1", ear.listen(-1), -1);
        Checks.due("n 100", ear.listen(100), -1);
        Checks.due("n far", ear.listen(Integer.MAX_VALUE), -1);
        Checks.due("n 1", ear.listen(1), 250000);
        Checks.due("n 99", ear.listen(99), 250000);
        Checks.due("nothing is left", ear.of(0, 14), 0);
        Checks.due("nothing to be found", ear.listen(1), 0);
        led("all", ear, 101, 0, 101, 500000, 0, 0);
    }

    /** "A way in deed is as in a ROUND." */
    private static void nowAndWays() {
        OneEarOfTwo ear = yard("0", 0, 1, 1, 1, 2120, 1, 9999, 1);
        Checks.due("no way at all", ear.go(0), 0);
        Checks.due("one yard", ear.go(1), 1);
        Checks.due("19 and 21 yards", ear.go(2), 3);
        ear.mend(0, 7, 39);
        Checks.due("40 yards by 39", ear.go(1), 5);
        ear.mend(0, 7, 40);
        Checks.due("40 yards by 40", ear.go(2), 6);
        ear.mend(0, 7, 1);
        Checks.due("79 and 78 yards by 1", ear.go(3), 163);
        ear.mend(0, 7, 99);
        Checks.due("198 yards by 99", ear.go(0), 165);
    }

    /** "SHARES in deed lessen" by what THE LAW gives behind k minutes there, at minute NOW, each minute cut */
    private static void sharesInDeedLessen() {
        OneEarOfTwo ear = yard("k=2&m=4?6;k<2?0;11", 0, 1, 20, 1);
        Checks.due("k 0, 1", ear.listen(2), 0);
        ear.go(1);
        ear.go(0);
        Checks.due("k 2 at minute 4", ear.listen(1), 250000);
        // 250000 / 12 is 20833 (.33), then 1736, 144, 12, 1, 0
        Checks.due("k 3", ear.listen(1), 229167);
        Checks.due("k 4 .. 7", ear.listen(4), 20832);
        Checks.due("the last millionth", ear.of(0, 14), 1);
        Checks.due("is cut", ear.listen(1), 1);
        Checks.due("nothing is left", ear.of(0, 14), 0);
        Checks.due("the other is not grown", ear.of(1, 14), 500000);
        Checks.due("minutes there", ear.of(0, 15), 9);
        Checks.due("none in the other", ear.of(1, 15), 0);
    }

    /** THE LAW is asked for each minute anew: behind one minute there more, at the next minute */
    private static void eachMinuteByTheLaw() {
        OneEarOfTwo ear = yard("m=3?12;0", 0, 1, 0, 1);
        Checks.due("till minute 3", ear.listen(3), 0);
        Checks.due("in minute 3", ear.listen(2), 500000);
        Checks.tell(ear, "m=8?12;0");
        ear.go(1);
        Checks.due("in minute 8 of 5 .. 9", ear.listen(5), 500000);
        Checks.tell(ear, "k=7?12;0");
        ear.again();
        Checks.due("behind 7 minutes of 0 .. 6", ear.listen(7), 0);
        Checks.due("behind 7 minutes of 7 .. 9", ear.listen(3), 500000);
    }

    /** "FIND it in a PLACE (all others: SHARE 0; its: 1000000)", "what SHARE it had. BAD." */
    private static void findInAPlace() {
        OneEarOfTwo ear = yard("6", 0, 1, 0, 1, 0, 2);
        Checks.due("no PLACE", ear.find(3), -1);
        Checks.due("no PLACE", ear.find(-1), -1);
        Checks.due("what it had", ear.find(2), 500000);
        Checks.due("all others", ear.of(0, 14), 0);
        Checks.due("all others", ear.of(1, 14), 0);
        Checks.due("its", ear.of(2, 14), 1000000);
        Checks.due("what it has now", ear.find(2), 1000000);
        Checks.due("what another has", ear.find(0), 0);
        Checks.due("its", ear.of(0, 14), 1000000);
        Checks.due("all others", ear.of(2, 14), 0);
        led("one is where one was, and nothing is FOUND by it", ear, 0, 0, 0, 0, 3, 0);
        OneEarOfTwo first = new OneEarOfTwo();
        Checks.due("without PLACES", first.find(0), -1);
        first.place(0, 0);
        Checks.due("ahead of AGAIN", first.find(0), 0);
        Checks.due("ahead of AGAIN: its", first.of(0, 14), 1000000);
    }

    /** "(ahead of it .. SHARES in deed are 0 ..)" */
    private static void aheadOfAgain() {
        OneEarOfTwo ear = Checks.withPlaces(0, 99, 0, 99);
        for (int p = 0; p < 2; p++) Checks.due("SHARE ahead of AGAIN", ear.of(p, 14), 0);
        ear.go(0);
        Checks.due("nothing is found", ear.listen(99), 0);
        Checks.due("but listened", ear.of(0, 15), 99);
        led("ahead of AGAIN", ear, 99, 1, 99, 0, 0, 0);
        Checks.due("AGAIN", ear.again(), 1000000);
        Checks.due("SHARE", ear.of(0, 14), 500000);
        Checks.due("nothing listened", ear.of(0, 15), 0);
    }

    /** "(.. for PLACES that came since, SHARES in deed are 0 ..)" */
    private static void placesThatCameSince() {
        OneEarOfTwo ear = yard("6", 0, 1);
        Checks.lay(ear, 0, 0, 0, 9);
        ear.place(0, 99);
        ear.places(0, 0, 1);
        Checks.due("by place()", ear.of(1, 14), 0);
        Checks.due("by places()", ear.of(2, 14), 0);
        Checks.due("that of before", ear.of(0, 14), 1000000);
        ear.go(1);
        Checks.due("nothing is found there", ear.listen(5), 0);
        Checks.due("what it had", ear.find(2), 0);
        Checks.due("AGAIN, all three", ear.again(), 9174 + 908256 + 82568);
        Checks.due("by place(), then", ear.of(1, 14), 908256);
    }

    /** "AGAIN: NOW is 0, SHARES by ODDS as they are then, nothing listened, at PLACE 0" */
    private static void againByOddsAsTheyAreThen() {
        OneEarOfTwo ear = yard("6", 0, 1, 20, 1);
        ear.go(1);
        ear.listen(3);
        ear.mend(0, 2, 3);
        Checks.due("till then as before", ear.of(0, 14), 500000);
        Checks.due("AGAIN", ear.again(), 1000000);
        Checks.due("three of four", ear.of(0, 14), 750000);
        Checks.due("one of four", ear.of(1, 14), 250000);
        Checks.due("nothing listened", ear.of(1, 15), 0);
        led("AGAIN", ear, 0, 1, 3, 437500, 0, 0);
        ear.mend(0, 5, 99);
        Checks.due("with GONE, cut", ear.again(), 29126 + 9708);
        ear.mend(0, 2, 0);
        ear.mend(1, 2, 0);
        Checks.due("GONE alone", ear.again(), 0);
        ear.mend(0, 5, 0);
        Checks.due("all 0", ear.again(), 0);
        led("all 0: at PLACE 0 even so", ear, 0, 1, 3, 437500, 0, 0);
        OneEarOfTwo none = new OneEarOfTwo();
        Checks.due("without PLACES", none.again(), 0);
        led("without PLACES", none, 0, 0, 0, 0, 0, -2);
    }

    /** "one is at no PLACE at first, goes from PLACE 0's X, Y then" */
    private static void atNoPlaceAtFirst() {
        OneEarOfTwo ear = Checks.withPlaces(50, 1, 90, 1);
        Checks.due("at no PLACE", ear.led(5), -2);
        Checks.due("listen", ear.listen(1), -5);
        Checks.due("from PLACE 0's X, Y", ear.go(1), 2);
        Checks.due("at PLACE 1", ear.led(5), 1);
        OneEarOfTwo own = Checks.withPlaces(50, 1);
        Checks.due("PLACE 0 itself", own.go(0), 0);
        Checks.due("at PLACE 0", own.led(5), 0);
        Checks.due("listen", own.listen(1), 0);
        OneEarOfTwo mended = Checks.withPlaces(50, 1, 90, 1);
        mended.mend(0, 0, 90);
        Checks.due("PLACE 0's X, Y as they are", mended.go(1), 0);
    }

    /** "LED: NOW, goings, minutes listened, FOUND millionths, finds (these four ever)" */
    private static void theseFourEver() {
        OneEarOfTwo ear = yard("6", 0, 1, 20, 1);
        Checks.due("what below", ear.led(-1), -1);
        Checks.due("what above", ear.led(6), -1);
        for (int i = 1; i <= 12; i++) {
            ear.listen(1);
            ear.go(1);
            ear.find(0);
            ear.again();
            led("the " + i + "th time", ear, 0, i, i, 250000 * i, i, 0);
        }
    }

    /** "(all numbers of mend(); telling the same number is none)" */
    private static void sameNumberIsNone() {
        int[] other = {7, 7, 7, 7, 7, 7, 7, 7, 7, 7, 7, 7, 7, 7};
        OneEarOfTwo ear = Checks.withPlaces(0, 1);
        for (int what = 0; what < 14; what++) {
            int was = ear.of(0, what);
            Checks.due("the same of " + what, ear.mend(0, what, was), was);
            Checks.due("is none", ear.count(2), what);
            Checks.due("another of " + what, ear.mend(0, what, other[what]), was);
            Checks.due("is one", ear.count(2), what + 1);
        }
        for (int what = 13; what >= 0; what--) {
            Checks.due("it was changed", ear.of(0, what), 7);
            Checks.due("undone", ear.undo(), what);
        }
        int[] first = {0, 0, 1, 5, 0, 0, 180, 20, 60, 90, 3, 20, 60, 20};
        for (int what = 0; what < 14; what++) Checks.due("as it was: " + what, ear.of(0, what), first[what]);
        for (int what = 0; what < 14; what++) Checks.due("done again", ear.redo(), 13 - what);
        for (int what = 0; what < 14; what++) Checks.due("as it became: " + what, ear.of(0, what), 7);
    }

    /** "can be UNDONE, the latest first" */
    private static void latestFirst() {
        OneEarOfTwo ear = Checks.withPlaces(0, 0, 0, 0);
        Checks.due("none yet", ear.undo(), -5);
        ear.mend(0, 3, 1);
        ear.mend(1, 3, 2);
        ear.mend(0, 3, 3);
        Checks.due("three", ear.count(2), 3);
        Checks.due("the latest", ear.undo(), 2);
        Checks.due("as it was ahead of it", ear.of(0, 3), 1);
        Checks.due("the other stays", ear.of(1, 3), 2);
        Checks.due("that ahead of it", ear.undo(), 1);
        Checks.due("the other", ear.of(1, 3), 5);
        Checks.due("the first", ear.undo(), 0);
        Checks.due("as it was at first", ear.of(0, 3), 5);
        Checks.due("no more", ear.undo(), -5);
        Checks.due("none may be undone", ear.count(2), 0);
    }

    /** "and DONE AGAIN (as long as no other came behind)" */
    private static void asLongAsNoOtherCame() {
        OneEarOfTwo ear = new OneEarOfTwo();
        Checks.due("none yet", ear.redo(), -5);
        ear.mend(0, 8, 1);
        ear.mend(0, 8, 2);
        ear.mend(0, 8, 3);
        Checks.due("none is undone", ear.redo(), -5);
        ear.undo();
        ear.undo();
        Checks.due("refused ones are no others", ear.mend(0, 8, 10000), -1);
        Checks.due("the same number is no other", ear.mend(0, 8, 1), 1);
        Checks.due("the first of two", ear.redo(), 1);
        Checks.due("it is so again", ear.of(0, 8), 2);
        Checks.due("the second", ear.redo(), 0);
        Checks.due("it is so again", ear.of(0, 8), 3);
        Checks.due("no more", ear.redo(), -5);
        ear.undo();
        ear.mend(0, 9, 4);
        Checks.due("another came", ear.redo(), -5);
        Checks.due("three", ear.count(2), 3);
        ear.undo();
        Checks.due("that other", ear.redo(), 0);
        Checks.due("that other is so again", ear.of(0, 9), 4);
        ear.undo();
        ear.undo();
        ear.mend(0, 8, 2);
        Checks.due("another came, though like the undone one", ear.redo(), -5);
    }

    /** "40 at most are kept" */
    private static void fortyAtMost() {
        OneEarOfTwo ear = new OneEarOfTwo();
        for (int i = 1; i <= 39; i++) ear.mend(0, 8, 100 + i);
        Checks.due("39", ear.count(2), 39);
        ear.mend(0, 8, 140);
        Checks.due("40", ear.count(2), 40);
        ear.mend(0, 8, 141);
        Checks.due("41 are 40", ear.count(2), 40);
        ear.undo();
        Checks.due("39 may still be", ear.count(2), 39);
        Checks.due("done again", ear.redo(), 0);
        for (int left = 39; left >= 0; left--) Checks.due("undone", ear.undo(), left);
        Checks.due("no more", ear.undo(), -5);
        Checks.due("the first can't be undone", ear.of(0, 8), 101);
        for (int left = 39; left >= 0; left--) Checks.due("done again", ear.redo(), left);
        Checks.due("no more", ear.redo(), -5);
        Checks.due("the last", ear.of(0, 8), 141);
        OneEarOfTwo forty = new OneEarOfTwo();
        for (int i = 1; i <= 40; i++) forty.mend(0, 8, 100 + i);
        for (int left = 39; left >= 0; left--) Checks.due("undone", forty.undo(), left);
        Checks.due("all forty", forty.of(0, 8), 60);
    }

    /** "40 at most are kept": the first ones are forgotten, those behind them keep their own PLACE and number */
    private static void fortyOfAllSorts() {
        OneEarOfTwo ear = Checks.withPlaces(0, 50, 0, 50, 0, 50), shorter = Checks.withPlaces(0, 50, 0, 50, 0, 50);
        for (int i = 0; i < 47; i++) {
            ear.mend(i % 3, i % 5, i % 4 + 6);
            if (i < 7) shorter.mend(i % 3, i % 5, i % 4 + 6);
        }
        Checks.due("forty", ear.count(2), 40);
        int[] last = new int[15];
        for (int i = 0; i < 15; i++) last[i] = ear.of(i % 3, i / 3);
        for (int left = 39; left >= 0; left--) Checks.due("undone", ear.undo(), left);
        for (int i = 0; i < 15; i++) Checks.due("behind seven: " + i, ear.of(i % 3, i / 3), shorter.of(i % 3, i / 3));
        for (int left = 39; left >= 0; left--) Checks.due("done again", ear.redo(), left);
        for (int i = 0; i < 15; i++) Checks.due("behind all: " + i, ear.of(i % 3, i / 3), last[i]);
    }

    /** "deeds are none" */
    private static void deedsAreNone() {
        OneEarOfTwo ear = Checks.withPlaces(0, 1, 20, 1);
        ear.mend(0, 3, 7);
        ear.mend(0, 3, 8);
        ear.undo();
        ear.image();
        ear.again();
        ear.go(1);
        ear.listen(1);
        ear.find(1);
        ear.place(0, 1);
        ear.back();
        Checks.tell(ear, "1");
        ear.body(0);
        Checks.lay(ear, 0, 0, 0, 1);
        ear.places(0, 0, 1);
        Checks.due("none of these is one", ear.count(2), 1);
        Checks.due("none came behind", ear.redo(), 0);
        Checks.due("done again", ear.of(0, 3), 8);
        ear.again();
        ear.undo();
        led("undone", ear, 0, 0, 0, 0, 0, 0);
        Checks.due("SHARES in deed stay", ear.of(0, 14), 250000);
        Checks.due("all PLACES stay", ear.count(0), 4);
    }

    /** "AN IMAGE keeps SHARES in deed, where one is, minutes listened in PLACES, what LED tells." */
    private static void imageKeeps() {
        OneEarOfTwo ear = yard("6", 0, 1, 20, 1);
        Checks.due("there is none", ear.back(), -5);
        ear.listen(1);
        ear.go(1);
        ear.listen(2);
        ear.find(0);
        Checks.due("NOW", ear.image(), 4);
        ear.listen(9);
        ear.again();
        ear.find(1);
        ear.go(1);
        ear.mend(0, 3, 9);
        Checks.due("NOW, laid back", ear.back(), 4);
        led("laid back", ear, 4, 1, 3, 625000, 1, 1);
        Checks.due("SHARE", ear.of(0, 14), 1000000);
        Checks.due("SHARE", ear.of(1, 14), 0);
        Checks.due("minutes", ear.of(0, 15), 1);
        Checks.due("minutes", ear.of(1, 15), 2);
        Checks.due("numbers of mend() are not kept by it", ear.of(0, 3), 9);
        ear.again();
        Checks.due("laid back once more", ear.back(), 4);
        ear.again();
        Checks.due("another one", ear.image(), 0);
        ear.listen(5);
        Checks.due("laid back: the other one", ear.back(), 0);
        led("laid back: the other one", ear, 0, 1, 3, 625000, 1, 0);
    }

    /** "It is laid back ..: NOW. STATE: there is none.", of one kept ahead of all */
    private static void imageOfNothing() {
        OneEarOfTwo ear = new OneEarOfTwo();
        Checks.due("there is none", ear.back(), -5);
        Checks.due("NOW", ear.image(), 0);
        ear.place(0, 1);
        ear.again();
        ear.listen(3);
        ear.go(0);
        ear.find(0);
        Checks.due("NOW, laid back", ear.back(), 0);
        led("laid back: at no PLACE", ear, 0, 0, 0, 0, 0, -2);
        Checks.due("SHARE", ear.of(0, 14), 0);
        Checks.due("minutes", ear.of(0, 15), 0);
        Checks.due("listen", ear.listen(1), -5);
    }

    /** "(PLACES that came since: SHARE 0, nothing listened)" */
    private static void imageAndPlacesThatCameSince() {
        OneEarOfTwo ear = yard("6", 0, 1);
        ear.listen(1);
        ear.image();
        for (int p = 1; p < 8; p++) ear.place(0, 1);
        ear.again();
        for (int p = 1; p < 8; p++) {
            ear.go(p);
            ear.listen(1);
        }
        Checks.due("NOW, laid back", ear.back(), 1);
        Checks.due("eight PLACES", ear.count(0), 8);
        for (int p = 1; p < 8; p++) {
            Checks.due("SHARE of " + p, ear.of(p, 14), 0);
            Checks.due("minutes in " + p, ear.of(p, 15), 0);
        }
        Checks.due("SHARE of 0", ear.of(0, 14), 500000);
        Checks.due("minutes in 0", ear.of(0, 15), 1);
    }
}
