/**
 * Sections 3 and 4 of the terms up to DRAWN: buying, strangers, turns, grass, losses by draws.
 * Each sentence that names an edge has a function of its own here, which quotes it.
 */
public final class BuyingEdgesTest {
    public static void main(String[] args) {
        yearsLeft();
        goOnOrBuy();
        lostByTwelfths();
        meanIsCut();
        pricesAtTheirEnds();
        whatToDoOfLikeOnes();
        waitUpTo9999();
        waitNever();
        strangersOfOtherBytes();
        strangersLeftOver();
        turnsOfNMinutes();
        turnsAtTheirEnds();
        elseOneWaits();
        grassOfLikeOnes();
        grassWithoutPlaces();
        oneToThirtyLosses();
        seedWraps();
        nowhere();
        belowWhatTheLawGives();
        noOthersAreDrawn();
        Checks.end("BuyingEdgesTest");
    }

    private static OneEarOfTwo prices(int single, int pair, int loss, int uneven) {
        OneEarOfTwo ear = new OneEarOfTwo();
        ear.mend(0, 8, single);
        ear.mend(0, 9, pair);
        ear.mend(0, 10, loss);
        ear.mend(0, 11, uneven);
        return ear;
    }

    private static void bought(OneEarOfTwo ear, int years, int pence, int choice) {
        Checks.due(years + " years cost", ear.buy(years, 0), pence);
        Checks.due(years + " years: what to do", ear.buy(years, 1), choice);
    }

    /** "YEARS left n (0 .. 20)", "(1; n 0: 0)" */
    private static void yearsLeft() {
        OneEarOfTwo ear = prices(60, 90, 3, 100);
        Checks.due("-1 years", ear.buy(-1, 0), -1);
        Checks.due("21 years", ear.buy(21, 0), -1);
        Checks.due("far too many years", ear.buy(Integer.MAX_VALUE, 1), -1);
        Checks.due("what below", ear.buy(0, -1), -1);
        Checks.due("what above", ear.buy(0, 2), -1);
        bought(ear, 1, 60000, 1);
        bought(ear, 0, 0, 0);
        OneEarOfTwo surely = prices(60, 90, 12, 7);
        bought(surely, 20, 140000, 0);
    }

    /** "each year with one: go on with it (UNEVEN; it is not lost), or buy SINGLE, or PAIR (two then)" */
    private static void goOnOrBuy() {
        OneEarOfTwo never = prices(9999, 9999, 12, 5);
        for (int n = 1; n <= 20; n++) bought(never, n, 5000 * n, 0);
        OneEarOfTwo once = prices(50, 9999, 0, 30);
        bought(once, 1, 30000, 0);
        bought(once, 2, 50000, 1);
        bought(once, 20, 50000, 1);
        OneEarOfTwo pair = prices(51, 50, 0, 30);
        bought(pair, 2, 50000, 2);
    }

    /** "each year with two (also one in which it was bought) one of them is lost by LOSS of twelve" */
    private static void lostByTwelfths() {
        OneEarOfTwo ear = prices(50, 9999, 12, 60);
        bought(ear, 1, 50000, 1);
        // bought in the first year and lost in it: one again in the second
        bought(ear, 2, 100000, 1);
        bought(ear, 3, 150000, 1);
        ear.mend(0, 10, 0);
        bought(ear, 3, 50000, 1);
        ear.mend(0, 10, 6);
        bought(ear, 2, 75000, 1);
    }

    /** "(the mean of both ways, cut)" */
    private static void meanIsCut() {
        // with two and one year left behind: a twelfth of 5000 is 416 (.66)
        bought(prices(5, 9, 1, 9), 2, 5416, 1);
        bought(prices(5, 9, 11, 9), 2, 9583, 1);
        // one 5000, 5416; two 416; then (5416 + 11 * 416) / 12 = 832 (.66)
        bought(prices(5, 9, 1, 9), 3, 5832, 1);
    }

    /** "SINGLE (0 .. 9999 pence ..), PAIR (likewise ..), UNEVEN (likewise ..), LOSS (0 .. 12 ..)" */
    private static void pricesAtTheirEnds() {
        bought(prices(0, 0, 12, 9999), 20, 0, 1);
        bought(prices(9999, 0, 12, 9999), 20, 0, 2);
        bought(prices(9999, 9999, 12, 0), 20, 0, 0);
        bought(prices(9999, 9999, 12, 9999), 20, 199980000, 0);
        bought(prices(9999, 9999, 0, 9999), 20, 9999000, 1);
        bought(prices(9999, 9998, 0, 9999), 20, 9998000, 2);
    }

    /** "what to do now (0 go on, 1 SINGLE, 2 PAIR; of like ones the least)" */
    private static void whatToDoOfLikeOnes() {
        bought(prices(40, 40, 3, 40), 1, 40000, 0);
        bought(prices(40, 40, 3, 41), 1, 40000, 1);
        bought(prices(41, 40, 3, 41), 1, 40000, 2);
        bought(prices(41, 40, 3, 40), 1, 40000, 0);
        bought(prices(0, 0, 0, 0), 20, 0, 0);
    }

    /** "the greatest UNEVEN (0 .. 9999) by which going on now is best" */
    private static void waitUpTo9999() {
        Checks.due("n 0", prices(1, 1, 1, 1).waits(0), -1);
        Checks.due("n 21", prices(1, 1, 1, 1).waits(21), -1);
        Checks.due("as dear as SINGLE is best still", prices(70, 90, 3, 0).waits(1), 70);
        Checks.due("as dear as PAIR", prices(90, 70, 3, 0).waits(1), 70);
        Checks.due("9998", prices(9998, 9999, 3, 0).waits(1), 9998);
        Checks.due("9999", prices(9999, 9999, 3, 0).waits(1), 9999);
        // two years of it are as dear as one ear that is never lost
        Checks.due("half of it", prices(9999, 9999, 0, 0).waits(2), 4999);
        Checks.due("a twentieth", prices(9999, 9999, 0, 0).waits(20), 499);
        Checks.due("n 20", prices(100, 100, 0, 0).waits(20), 5);
        OneEarOfTwo ear = prices(70, 90, 3, 12);
        ear.waits(20);
        Checks.due("UNEVEN stays", ear.of(0, 11), 12);
        Checks.due("that is no CHANGE", ear.count(2), 2);
    }

    /** "NOT: never" - with UNEVEN 0 going on costs nothing, so it is at least as good as buying */
    private static void waitNever() {
        for (int loss = 0; loss <= 12; loss++) {
            for (int n = 1; n <= 20; n++) Checks.due("all for nothing", prices(0, 0, loss, 0).waits(n), 0);
        }
    }

    /** "what each has too much of (0 left, 1 right; other bytes: nothing)" */
    private static void strangersOfOtherBytes() {
        OneEarOfTwo ear = new OneEarOfTwo();
        Checks.lay(ear, 0, 2, -1, 127, -128, 3, 0, 100, 1, 2, 2);
        Checks.due("PAIRS", ear.strangers(0, 0), 1);
        Checks.due("which side", ear.strangers(0, 1), -2);
        Checks.due("how many", ear.strangers(0, 2), 0);
        Checks.lay(ear, 0, 2, 2, 2);
        for (int what = 0; what < 3; what++) Checks.due("others alone", ear.strangers(0, what), what == 1 ? -2 : 0);
        Checks.lay(ear, 0);
        for (int what = 0; what < 3; what++) Checks.due("an empty ROW", ear.strangers(0, what), what == 1 ? -2 : 0);
        // 256 and 257 keep their lowest bits
        Checks.lay(ear, 0, 256, 257, 257);
        Checks.due("lowest bits", ear.strangers(0, 0), 1);
        Checks.due("lowest bits", ear.strangers(0, 1), 1);
    }

    private static void leftOver(int lefts, int rights, int pairs, int side, int many) {
        int[] bytes = new int[lefts + rights];
        for (int i = 0; i < rights; i++) bytes[i] = 1;
        OneEarOfTwo ear = new OneEarOfTwo();
        Checks.lay(ear, 0, bytes);
        Checks.due(lefts + ", " + rights + ": PAIRS", ear.strangers(0, 0), pairs);
        Checks.due(lefts + ", " + rights + ": which side", ear.strangers(0, 1), side);
        Checks.due(lefts + ", " + rights + ": how many", ear.strangers(0, 2), many);
    }

    /** "which side is left over (0, 1; NOT: none), how many" */
    private static void strangersLeftOver() {
        leftOver(1, 0, 0, 0, 1);
        leftOver(0, 1, 0, 1, 1);
        leftOver(1, 1, 1, -2, 0);
        leftOver(60, 0, 0, 0, 60);
        leftOver(0, 60, 0, 1, 60);
        leftOver(30, 30, 30, -2, 0);
        leftOver(31, 29, 29, 0, 2);
    }

    private static OneEarOfTwo turns(int wear, int fill) {
        OneEarOfTwo ear = new OneEarOfTwo();
        ear.mend(0, 12, wear);
        ear.mend(0, 13, fill);
        return ear;
    }

    /** "how many minutes of n (0 .. 9999) one hears" */
    private static void turnsOfNMinutes() {
        OneEarOfTwo ear = turns(60, 99);
        Checks.due("n -1", ear.worn(-1), -1);
        Checks.due("n 10000", ear.worn(10000), -1);
        Checks.due("n 0", ear.worn(0), 0);
        Checks.due("n 1", ear.worn(1), 1);
        // 120 minutes, 39 of waiting, and so on: 62 times 159, then 120 of 141
        Checks.due("n 9999", ear.worn(9999), 62 * 120 + 120);
        Checks.due("n within the worn ones", ear.worn(119), 119);
        Checks.due("n at their end", ear.worn(120), 120);
    }

    /** "worn WEAR minutes (1 .. 99 ..), charged FILL (1 .. 99 ..)" */
    private static void turnsAtTheirEnds() {
        Checks.due("1 and 1", turns(1, 1).worn(9999), 9999);
        Checks.due("99 and 99", turns(99, 99).worn(9999), 9999);
        Checks.due("99 and 1", turns(99, 1).worn(9999), 9999);
        // two of each hundred
        Checks.due("1 and 99", turns(1, 99).worn(9999), 200);
        Checks.due("1 and 2", turns(1, 2).worn(3), 2);
        Checks.due("1 and 2", turns(1, 2).worn(9999), 6666);
    }

    /** "with full ones both at first one is worn till it is empty, then the other, each charged from when it is taken out, worn
     *  again as soon as the worn one is empty and it is full (else one waits)" */
    private static void elseOneWaits() {
        // worn 0 .. 9, 10 .. 19; the first is full at 25 and worn till 34, the other at 35; the first at 50
        OneEarOfTwo ear = turns(10, 15);
        int[] by = {0, 10, 20, 21, 25, 26, 35, 36, 45, 50, 51, 60, 61, 70};
        int[] heard = {0, 10, 20, 20, 20, 21, 30, 31, 40, 40, 41, 50, 51, 60};
        for (int i = 0; i < by.length; i++) Checks.due("10 and 15 by " + by[i], ear.worn(by[i]), heard[i]);
        for (int n = 0; n < 400; n++) Checks.due("10 and 15 by " + n, ear.worn(n), heardBy(10, 15, n));
        // full just as the other is empty: one does not wait
        Checks.due("10 and 10", turns(10, 10).worn(500), 500);
        Checks.due("10 and 11", turns(10, 11).worn(21), 20);
        Checks.due("10 and 11", turns(10, 11).worn(22), 21);
    }

    /** Minute by minute: from which minute on each ear is full. */
    private static int heardBy(int wear, int fill, int n) {
        int[] fullFrom = {0, 0};
        int heard = 0, worn = 0, left = wear;
        for (int minute = 0; minute < n; minute++) {
            if (left == 0 && fullFrom[1 - worn] <= minute) {
                worn = 1 - worn;
                left = wear;
            }
            if (left == 0) continue;
            heard++;
            left--;
            if (left == 0) fullFrom[worn] = minute + 1 + fill;
        }
        return heard;
    }

    /** "of PLACES 0 on the nearest (X and Y apart together; of like ones the least)" */
    private static void grassOfLikeOnes() {
        OneEarOfTwo ear = Checks.withPlaces(10, 1, 1000, 2, 12, 3, 12, 4);
        Checks.due("as near as PLACE 1", ear.grass(0, 0), 0);
        Checks.due("nearer to 0", ear.grass(1, 0), 0);
        Checks.due("nearer to 1", ear.grass(100, 0), 1);
        Checks.due("between 0 and 2", ear.grass(11, 0), 0);
        Checks.due("2 and 3 lie in one spot", ear.grass(12, 0), 2);
        Checks.due("its SHARE", ear.grass(12, 1), 300000);
        Checks.due("the farthest", ear.grass(9999, 0), 2);
        OneEarOfTwo high = Checks.withPlaces(9999, 1, 9898, 1, 9799, 1);
        Checks.due("in the corner", high.grass(9999, 0), 0);
        Checks.due("its SHARE", high.grass(9999, 1), 333333);
        Checks.due("next to it", high.grass(9899, 0), 0);
        Checks.due("two yards from it", high.grass(9898, 0), 1);
        Checks.due("as near as the third", high.grass(9798, 0), 1);
        Checks.due("nearer to the third", high.grass(9699, 0), 2);
        Checks.due("xy below", ear.grass(-1, 0), -1);
        Checks.due("xy above", ear.grass(10000, 0), -1);
        Checks.due("what below", ear.grass(0, -1), -1);
        Checks.due("what above", ear.grass(0, 2), -1);
        OneEarOfTwo eight = Checks.withPlaces(0, 1, 1, 1, 2, 1, 3, 1, 4, 1, 5, 1, 6, 1, 7, 1);
        Checks.due("the eighth", eight.grass(99, 0), 7);
        Checks.due("an eighth", eight.grass(99, 1), 125000);
    }

    /** "the nearest (what 0; NOT: no PLACES), how likely (1; NOT)" */
    private static void grassWithoutPlaces() {
        OneEarOfTwo ear = new OneEarOfTwo();
        Checks.due("where", ear.grass(0, 0), -2);
        Checks.due("how likely", ear.grass(9999, 1), -2);
        Checks.due("BAD ahead of NOT", ear.grass(10000, 1), -1);
        Checks.due("BAD ahead of NOT", ear.grass(0, 2), -1);
        ear.place(0, 0);
        Checks.due("a PLACE without ODDS", ear.grass(0, 0), 0);
        Checks.due("a PLACE without ODDS", ear.grass(0, 1), 0);
    }

    private static OneEarOfTwo sure() {
        OneEarOfTwo ear = Checks.withPlaces(0, 1);
        Checks.tell(ear, "12");
        Checks.lay(ear, 0, 0, 1);
        return ear;
    }

    /** "n losses (1 .. 30)" */
    private static void oneToThirtyLosses() {
        OneEarOfTwo ear = sure();
        Checks.due("n 0", ear.drawn(0, 1, 0, 0), -1);
        Checks.due("n -1", ear.drawn(0, 1, -1, 0), -1);
        Checks.due("n 31", ear.drawn(0, 1, 31, 0), -1);
        Checks.due("n 1", ear.drawn(0, 1, 1, 0), 1);
        Checks.due("n 30", ear.drawn(0, 1, 30, 0), 30);
        Checks.due("BAD ahead of -11", ear.drawn(1, 1, 0, 0), -1);
        Checks.due("what below", ear.drawn(0, 1, 1, -1), -1);
        Checks.due("what above", ear.drawn(0, 1, 1, 2), -1);
        Checks.due("in minute 0", ear.drawn(0, 1, 30, 1), 0);
        Checks.lay(ear, 0, 0, 0);
        Checks.due("an empty ROUND", ear.drawn(0, 1, 30, 0), 0);
    }

    /** "z = z * 1103515245 + 12345 (an int; SEED at first) .. (z >>> 4) % .. (z >>> 8) % 12" */
    private static void seedWraps() {
        // two places, 1 and 1: the last but three of the bits tells which; 6 of twelve
        OneEarOfTwo ear = Checks.withPlaces(0, 1, 0, 1);
        Checks.tell(ear, "6");
        Checks.lay(ear, 0, 0, 1);
        int[] seeds = {0, 1, -1, 2, Integer.MAX_VALUE, Integer.MIN_VALUE, 1 << 30, -(1 << 30), 715827882, 19};
        for (int seed : seeds) {
            int z = seed, found = 0, where = 0;
            for (int loss = 0; loss < 30; loss++) {
                z = (int) (z * 1103515245L + 12345L);
                long place = (z & 0xffffffffL) / 16 % 2;
                if (place == 1) {
                    where++;
                    continue;
                }
                z = (int) (z * 1103515245L + 12345L);
                if ((z & 0xffffffffL) / 256 % 12 < 6) found++;
            }
            Checks.due("by " + seed, ear.drawn(0, seed, 30, 0), found);
            Checks.due("the other place is drawn too by " + seed, where > 0 && where < 30 ? 1 : 0, 1);
            Checks.due("once more by " + seed, ear.drawn(0, seed, 30, 0), found);
        }
    }

    /** "by ODDS of PLACES, then GONE (all 0: nowhere)" */
    private static void nowhere() {
        OneEarOfTwo ear = sure();
        ear.mend(0, 2, 0);
        Checks.due("all 0", ear.drawn(0, 1, 30, 0), 0);
        Checks.due("all 0", ear.drawn(0, 1, 30, 1), 0);
        OneEarOfTwo eight = Checks.withPlaces(0, 0, 0, 0, 0, 0, 0, 0, 0, 0, 0, 0, 0, 0, 0, 0);
        Checks.tell(eight, "12");
        Checks.lay(eight, 0, 0, 1, 1, 1, 2, 1, 3, 1, 4, 1, 5, 1, 6, 1, 7, 1);
        Checks.due("all eight 0", eight.drawn(0, 1, 30, 0), 0);
        ear.mend(0, 5, 99);
        Checks.due("GONE alone", ear.drawn(0, 1, 30, 0), 0);
        ear.mend(0, 2, 99);
        ear.mend(0, 5, 0);
        Checks.due("PLACE 0 alone", ear.drawn(0, 1, 30, 0), 30);
        ear.place(0, 0);
        Checks.lay(ear, 0, 1, 1);
        Checks.due("a PLACE without ODDS is never it", ear.drawn(0, 1, 30, 0), 0);
        ear.mend(0, 2, 0);
        ear.mend(1, 2, 1);
        Checks.due("behind one without ODDS", ear.drawn(0, 1, 30, 0), 30);
        // z >>> 4 of 12345 is 771: 771 % 3 is 0; ODDS 1, 1 and GONE 1
        ear.mend(0, 2, 1);
        ear.mend(0, 5, 1);
        Checks.lay(ear, 0, 0, 1);
        Checks.due("the first one is in PLACE 0", ear.drawn(0, 0, 1, 0), 1);
        // 771 % 4 is 3: ODDS 1, 2 and GONE 1
        ear.mend(1, 2, 2);
        Checks.lay(ear, 0, 0, 1, 1, 1);
        Checks.due("the first one is GONE", ear.drawn(0, 0, 1, 0), 0);
        ear.mend(1, 2, 3);
        ear.mend(0, 5, 0);
        Checks.due("the first one is in PLACE 1", ear.drawn(0, 0, 1, 0), 1);
        Checks.due("found in minute 1", ear.drawn(0, 0, 1, 1), 1);
    }

    /** "it is found, if (z >>> 8) % 12 is below what THE LAW gives" */
    private static void belowWhatTheLawGives() {
        OneEarOfTwo ear = sure();
        int z = 7 * 1103515245 + 12345;
        z = z * 1103515245 + 12345;
        int drawn = (z >>> 8) % 12;
        for (int gives = 0; gives <= 12; gives++) {
            Checks.tell(ear, "" + gives);
            Checks.due(drawn + " by " + gives, ear.drawn(0, 7, 1, 0), drawn < gives ? 1 : 0);
        }
        Checks.tell(ear, "0");
        Checks.due("0 finds none", ear.drawn(0, 7, 30, 0), 0);
    }

    /** "ahead of each minute listened there by a ROUND (no others)", "the minutes (as they began) in which, together" */
    private static void noOthersAreDrawn() {
        OneEarOfTwo ear = Checks.withPlaces(0, 1, 0, 0);
        Checks.tell(ear, "6");
        Checks.lay(ear, 0, 0, 9);
        int found = ear.drawn(0, 5, 30, 0), minutes = ear.drawn(0, 5, 30, 1);
        Checks.lay(ear, 0, 1, 7, 0, 9, 1, 2);
        Checks.due("others draw nothing", ear.drawn(0, 5, 30, 0), found);
        Checks.due("but the minutes are 7 later", ear.drawn(0, 5, 30, 1), minutes + 7 * found);
        Checks.tell(ear, "12");
        Checks.due("found once each, though one comes there again", ear.drawn(0, 5, 30, 0), 30);
        Checks.lay(ear, 0, 0, 2, 1, 1, 0, 2);
        Checks.due("found once each, though one listens on", ear.drawn(0, 5, 30, 0), 30);
        Checks.due("in minute 0 each", ear.drawn(0, 5, 30, 1), 0);
        Checks.tell(ear, "m=1?12;0");
        Checks.due("m goes on", ear.drawn(0, 5, 30, 1), 30);
        Checks.tell(ear, "k=1?12;0");
        Checks.due("k goes on", ear.drawn(0, 5, 30, 1), 30);
        Checks.tell(ear, "k=3?12;0");
        Checks.due("k goes on from one time to the next", ear.drawn(0, 5, 30, 1), 120);
        Checks.tell(ear, "k=0?0;12");
        Checks.lay(ear, 0, 0, 1, 1, 3, 0, 1);
        Checks.due("k goes on", ear.drawn(0, 5, 30, 0), 30);
        Checks.due("in minute 4 each", ear.drawn(0, 5, 30, 1), 120);
    }
}
