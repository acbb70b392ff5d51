/** Promises 18 to 23. */
public final class BuyingTest {
    public static void main(String[] args) {
        buy();
        waits();
        waitsAgainstAllUnevens();
        strangers();
        worn();
        grass();
        drawn();
        drawnNowhere();
        Checks.end("BuyingTest");
    }

    private static OneEarOfTwo prices(int single, int pair, int loss, int uneven) {
        OneEarOfTwo ear = new OneEarOfTwo();
        ear.mend(0, 8, single);
        ear.mend(0, 9, pair);
        ear.mend(0, 10, loss);
        ear.mend(0, 11, uneven);
        return ear;
    }

    private static void buy() {
        OneEarOfTwo ear = new OneEarOfTwo();
        Checks.due("18 n below", ear.buy(-1, 0), -1);
        Checks.due("18 n above", ear.buy(21, 0), -1);
        Checks.due("18 what", ear.buy(1, 2), -1);
        Checks.due("18 what", ear.buy(1, -1), -1);
        Checks.due("18 no years", ear.buy(0, 0), 0);
        Checks.due("18 no years", ear.buy(0, 1), 0);
        Checks.due("18 one year", ear.buy(1, 0), 20000);
        Checks.due("18 four years", ear.buy(4, 0), 80000);
        Checks.due("18 four years", ear.buy(4, 1), 0);
        // behind four years: one 80000, two 25312; then (3 * 80000 + 9 * 25312) / 12 = 38984
        Checks.due("18 five years", ear.buy(5, 0), 98984);
        Checks.due("18 five years", ear.buy(5, 1), 1);
        Checks.due("18 no years behind others", ear.buy(0, 1), 0);
        Checks.due("18 no years behind others", ear.buy(0, 0), 0);
        OneEarOfTwo dear = prices(90, 60, 3, 100);
        Checks.due("18 a pair", dear.buy(1, 0), 60000);
        Checks.due("18 a pair", dear.buy(1, 1), 2);
        // two: (3 * 60000 + 0) / 12 = 15000
        Checks.due("18 a pair", dear.buy(2, 0), 75000);
        OneEarOfTwo like = prices(60, 60, 0, 60);
        Checks.due("18 like: go on", like.buy(1, 1), 0);
        like.mend(0, 11, 61);
        Checks.due("18 like: single", like.buy(1, 1), 1);
        like.mend(0, 10, 12);
        // each year one is lost surely: 60000 a year
        Checks.due("18 all lost", like.buy(20, 0), 1200000);
        like.mend(0, 10, 0);
        Checks.due("18 none lost", like.buy(20, 0), 60000);
        OneEarOfTwo most = prices(9999, 9999, 12, 9999);
        Checks.due("18 dearest", most.buy(20, 0), 199980000);
        OneEarOfTwo cut = prices(1, 9, 7, 2);
        // one 1000; two 7 * 1000 / 12 = 583; then one 1583; two (7 * 1583 + 5 * 583) / 12 = 1166
        Checks.due("18 cut", cut.buy(2, 0), 1583);
        Checks.due("18 cut", cut.buy(3, 0), 2166);
    }

    private static void waits() {
        OneEarOfTwo ear = new OneEarOfTwo();
        Checks.due("19 n 0", ear.waits(0), -1);
        Checks.due("19 n 21", ear.waits(21), -1);
        Checks.due("19 n -1", ear.waits(-1), -1);
        Checks.due("19 one year", ear.waits(1), 60);
        Checks.due("19 five years", ear.waits(5), 19);
        ear.mend(0, 11, 7);
        Checks.due("19 UNEVEN as it is does not count", ear.waits(5), 19);
        ear.mend(0, 8, 9999);
        Checks.due("19 the pair", ear.waits(1), 90);
        ear.mend(0, 9, 9999);
        Checks.due("19 the greatest", ear.waits(1), 9999);
        ear.mend(0, 8, 0);
        Checks.due("19 for nothing", ear.waits(20), 0);
        Checks.due("19 changes nothing", ear.of(0, 11), 7);
    }

    private static void waitsAgainstAllUnevens() {
        int[][] told = {{60, 90, 3}, {500, 90, 12}, {9, 5000, 0}, {9999, 9999, 11}, {33, 34, 1}, {7, 7, 7}};
        for (int[] t : told) {
            OneEarOfTwo ear = prices(t[0], t[1], t[2], 0);
            for (int n = 1; n <= 20; n += 3) {
                int greatest = -2;
                for (int uneven = 0; uneven <= 9999; uneven++) {
                    ear.mend(0, 11, uneven);
                    if (ear.buy(n, 1) == 0) greatest = uneven;
                }
                Checks.due("19 waits(" + n + ") of " + t[0] + ", " + t[1] + ", " + t[2], ear.waits(n), greatest);
            }
        }
    }

    private static void strangers() {
        OneEarOfTwo ear = new OneEarOfTwo();
        Checks.due("20 shelf", ear.strangers(6, 0), -1);
        Checks.due("20 shelf", ear.strangers(-1, 0), -1);
        Checks.due("20 what", ear.strangers(0, 3), -1);
        Checks.due("20 what", ear.strangers(0, -1), -1);
        Checks.due("20 nothing", ear.strangers(0, 0), -11);
        ear.body(0);
        ear.keep(0, 0);
        Checks.due("20 body", ear.strangers(0, 0), -12);
        for (int sort = 1; sort < 5; sort++) {
            ear.row(0, sort, 2);
            Checks.due("20 sort", ear.strangers(0, 0), -12);
        }
        Checks.lay(ear, 0, 0, 1, 0, 2, -1, 0, 1, 127, -128);
        Checks.due("20 pairs", ear.strangers(0, 0), 2);
        Checks.due("20 left over", ear.strangers(0, 1), 0);
        Checks.due("20 how many", ear.strangers(0, 2), 1);
        Checks.lay(ear, 0, 1, 1, 1, 0);
        Checks.due("20 pairs", ear.strangers(0, 0), 1);
        Checks.due("20 left over", ear.strangers(0, 1), 1);
        Checks.due("20 how many", ear.strangers(0, 2), 2);
        Checks.lay(ear, 0, 1, 0);
        Checks.due("20 none left over", ear.strangers(0, 1), -2);
        Checks.due("20 none left over", ear.strangers(0, 2), 0);
        // what stood on the shelf ahead does not count
        Checks.lay(ear, 0, 0, 0, 0, 0);
        Checks.lay(ear, 0, 1);
        Checks.due("20 a shorter row", ear.strangers(0, 1), 1);
        Checks.due("20 a shorter row", ear.strangers(0, 2), 1);
    }

    /** Minute by minute: what each ear has left to charge, and which one is worn. */
    private static int wornByMinutes(int wear, int fill, int n) {
        int[] toFill = {0, 0};
        int worn = 0, left = wear, heard = 0;
        for (int minute = 0; minute < n; minute++) {
            int other = 1 - worn;
            if (left == 0 && toFill[other] == 0) {
                worn = other;
                other = 1 - worn;
                left = wear;
            }
            if (left > 0) {
                left--;
                heard++;
                if (toFill[other] > 0) toFill[other]--;
                if (left == 0) toFill[worn] = fill;
            } else {
                if (toFill[0] > 0) toFill[0]--;
                if (toFill[1] > 0) toFill[1]--;
            }
        }
        return heard;
    }

    private static void worn() {
        OneEarOfTwo ear = new OneEarOfTwo();
        Checks.due("21 below", ear.worn(-1), -1);
        Checks.due("21 above", ear.worn(10000), -1);
        Checks.due("21 none", ear.worn(0), 0);
        Checks.due("21 all", ear.worn(9999), 9999);
        ear.mend(0, 12, 1);
        ear.mend(0, 13, 99);
        // minutes 0, 1; 100, 101; 200, ..
        Checks.due("21 one", ear.worn(1), 1);
        Checks.due("21 both", ear.worn(2), 2);
        Checks.due("21 waits", ear.worn(100), 2);
        Checks.due("21 again", ear.worn(101), 3);
        Checks.due("21 again", ear.worn(9999), 200);
        int[] wears = {1, 2, 3, 10, 50, 98, 99};
        int[] fills = {1, 2, 3, 9, 10, 11, 49, 51, 99};
        for (int wear : wears) {
            for (int fill : fills) {
                ear.mend(0, 12, wear);
                ear.mend(0, 13, fill);
                for (int n = 0; n <= 400; n += 7) {
                    Checks.due("21 " + wear + ", " + fill + ": " + n, ear.worn(n), wornByMinutes(wear, fill, n));
                }
            }
        }
    }

    private static void grass() {
        OneEarOfTwo ear = new OneEarOfTwo();
        Checks.due("22 no places", ear.grass(0, 0), -2);
        Checks.due("22 no places", ear.grass(0, 1), -2);
        ear.place(10, 1);
        ear.place(1000, 2);
        ear.place(20, 4);
        Checks.due("22 xy below", ear.grass(-1, 0), -1);
        Checks.due("22 xy above", ear.grass(10000, 0), -1);
        Checks.due("22 what", ear.grass(0, 2), -1);
        Checks.due("22 what", ear.grass(0, -1), -1);
        Checks.due("22 like ones: the least", ear.grass(0, 0), 0);
        Checks.due("22 share, cut", ear.grass(0, 1), 142857);
        Checks.due("22 x", ear.grass(16, 0), 2);
        Checks.due("22 y", ear.grass(1000, 0), 1);
        Checks.due("22 far", ear.grass(9999, 0), 2);
        OneEarOfTwo low = Checks.withPlaces(0, 1, 100, 1);
        Checks.due("22 y is a hundredth of xy", low.grass(100, 0), 1);
        OneEarOfTwo high = Checks.withPlaces(9999, 1, 9899, 1);
        Checks.due("22 y 99", high.grass(9999, 0), 0);
        Checks.due("22 y 98", high.grass(9899, 0), 1);
        Checks.due("22 x and y together", ear.grass(707, 0), 0);
        Checks.due("22 share", ear.grass(9999, 1), 571428);
        ear.mend(0, 5, 9);
        Checks.due("22 share with GONE", ear.grass(9999, 1), 250000);
        ear.find(0);
        Checks.due("22 shares in deed do not count", ear.grass(0, 1), 62500);
        for (int p = 0; p < 3; p++) ear.mend(p, 2, 0);
        ear.mend(0, 5, 0);
        Checks.due("22 all 0", ear.grass(0, 1), 0);
    }

    private static void drawn() {
        OneEarOfTwo ear = Checks.withPlaces(0, 1, 0, 1, 0, 1);
        ear.mend(0, 5, 1);
        Checks.due("23 bad ahead of -11", ear.drawn(0, 1, 0, 0), -1);
        Checks.due("23 n above", ear.drawn(0, 1, 31, 0), -1);
        Checks.due("23 what", ear.drawn(0, 1, 1, 2), -1);
        Checks.due("23 what", ear.drawn(0, 1, 1, -1), -1);
        Checks.due("23 shelf", ear.drawn(6, 1, 1, 0), -1);
        Checks.due("23 nothing", ear.drawn(0, 1, 1, 0), -11);
        ear.row(0, 2, 4);
        Checks.due("23 sort", ear.drawn(0, 1, 1, 0), -12);
        ear.body(1);
        ear.keep(0, 0);
        Checks.due("23 body", ear.drawn(0, 1, 1, 0), -12);
        Checks.lay(ear, 0, 0, 3, 1, 4, 0, 2, 2, 5);
        Checks.tell(ear, "3+k");
        int[] seeds = {0, 1, -1, 7, Integer.MAX_VALUE, Integer.MIN_VALUE, 123456789, -987654321};
        for (int seed : seeds) {
            for (int n = 1; n <= 30; n++) {
                long want = drawnByHand(seed, n);
                Checks.due("23 found by " + seed + ", " + n, ear.drawn(0, seed, n, 0), want >> 32);
                Checks.due("23 minutes by " + seed + ", " + n, ear.drawn(0, seed, n, 1), want & 0xffffffffL);
            }
        }
    }

    /** The yard of drawn(): three places and GONE, odds 1 each; minutes 0 .. 13; found * 2^32 + minutes. */
    private static long drawnByHand(int seed, int n) {
        int[] where = {0, 0, 0, 1, 1, 1, 1, 0, 0, 2, 2, 2, 2, 2};
        int[] ahead = {0, 1, 2, 0, 1, 2, 3, 3, 4, 0, 1, 2, 3, 4};
        int z = seed;
        long found = 0, minutes = 0;
        for (int loss = 0; loss < n; loss++) {
            z = z * 1103515245 + 12345;
            int place = (z >>> 4) % 4;
            for (int minute = 0; minute < 14; minute++) {
                if (where[minute] != place) continue;
                z = z * 1103515245 + 12345;
                if ((z >>> 8) % 12 < 3 + ahead[minute]) {
                    found++;
                    minutes += minute;
                    break;
                }
            }
        }
        return (found << 32) + minutes;
    }

    private static void drawnNowhere() {
        OneEarOfTwo ear = Checks.withPlaces(0, 0, 0, 0);
        Checks.lay(ear, 0, 0, 9, 1, 9);
        Checks.tell(ear, "12");
        Checks.due("23 all 0", ear.drawn(0, 5, 30, 0), 0);
        Checks.due("23 all 0", ear.drawn(0, 5, 30, 1), 0);
        ear.mend(0, 5, 9);
        Checks.due("23 GONE", ear.drawn(0, 5, 30, 0), 0);
        ear.mend(0, 5, 0);
        ear.mend(1, 2, 3);
        Checks.due("23 surely", ear.drawn(0, 5, 30, 0), 30);
        ear.mend(1, 2, 1);
        Checks.due("23 odds of 1 alone", ear.drawn(0, 5, 30, 0), 30);
        Checks.due("23 surely, at minute 9", ear.drawn(0, 5, 30, 1), 270);
    }
}
