/** Promises 9 to 17: rounds in thought. */
public final class RoundsTest {
    public static void main(String[] args) {
        refusals();
        round();
        roundEnds();
        ifNot();
        by();
        next();
        stay();
        best();
        bestBeyond();
        giveUp();
        seen();
        dead();
        Checks.end("RoundsTest");
    }

    /** At (0, 0), (40, 0) and (0, 30); GONE 10: shares 300000, 400000, 200000, and 100000 of GONE. */
    private static OneEarOfTwo yard() {
        OneEarOfTwo ear = Checks.withPlaces(0, 30, 40, 40, 3000, 20);
        ear.mend(0, 5, 10);
        Checks.tell(ear, "6");
        return ear;
    }

    private static long ask(OneEarOfTwo ear, int call, int shelf) {
        switch (call) {
            case 0: return ear.round(shelf, -1);
            case 1: return ear.ifNot(shelf, 0);
            case 2: return ear.by(shelf, 5);
            case 3: return ear.next(shelf, 1, 0);
            case 4: return ear.stay(shelf, 5);
            case 5: return ear.giveUp(shelf, 5, 0);
            default: return ear.dead(shelf);
        }
    }

    private static void refusals() {
        OneEarOfTwo ear = yard();
        ear.body(0);
        ear.keep(1, 0);
        for (int call = 0; call < 7; call++) {
            int promise = call < 5 ? 9 + call : 10 + call;
            if (call == 6) promise = 17;
            Checks.due(promise + " shelf -1", ask(ear, call, -1), -1);
            Checks.due(promise + " shelf 6", ask(ear, call, 6), -1);
            Checks.due(promise + " nothing", ask(ear, call, 0), -11);
            Checks.due(promise + " a body", ask(ear, call, 1), -12);
            for (int sort = 1; sort < 5; sort++) {
                ear.row(2, sort, 4);
                Checks.due(promise + " sort " + sort, ask(ear, call, 2), -12);
            }
        }
        Checks.due("9 bad ahead of -11", ear.round(0, -4), -1);
        Checks.due("9 bad ahead of -11", ear.round(0, 3), -1);
        Checks.due("10 bad ahead of -11", ear.ifNot(0, 2), -1);
        Checks.due("10 bad", ear.ifNot(0, -1), -1);
        Checks.due("11 bad", ear.by(0, -1), -1);
        Checks.due("11 bad", ear.by(0, 1000001), -1);
        Checks.due("12 bad", ear.next(0, 0, 0), -1);
        Checks.due("12 bad", ear.next(0, 100, 0), -1);
        Checks.due("12 bad", ear.next(0, 1, 2), -1);
        Checks.due("12 bad", ear.next(0, 1, -1), -1);
        Checks.due("13 bad", ear.stay(0, -1), -1);
        Checks.due("13 bad", ear.stay(0, 1000000), -1);
        Checks.due("15 bad", ear.giveUp(0, -1, 0), -1);
        Checks.due("15 bad", ear.giveUp(0, 1000000, 0), -1);
        Checks.due("15 bad", ear.giveUp(0, 0, 2), -1);
        Checks.due("15 bad", ear.giveUp(0, 0, -1), -1);
    }

    private static void round() {
        OneEarOfTwo ear = yard();
        Checks.lay(ear, 0, 0, 2, 1, 1, 0, 1);
        // minutes 0, 1 at place 0; 2 on the way; minute 4 at place 1; 2 on the way; minute 7 at place 0
        Checks.due("9 share 0", ear.round(0, 0), 37500);
        Checks.due("9 share 1", ear.round(0, 1), 200000);
        Checks.due("9 share 2", ear.round(0, 2), 200000);
        Checks.due("9 no place 3", ear.round(0, 3), -1);
        Checks.due("9 found", ear.round(0, -1), 462500);
        Checks.due("9 minute", ear.round(0, -2), 8);
        Checks.due("9 twos", ear.round(0, -3), 3);
        Checks.due("9 bad", ear.round(0, -4), -1);
        Checks.tell(ear, "k=2?12;0");
        Checks.due("9 k goes on where one comes again", ear.round(0, 0), 0);
        Checks.tell(ear, "m=4?12;0");
        Checks.due("9 m", ear.round(0, 1), 0);
        Checks.due("9 m", ear.round(0, 0), 300000);
        Checks.tell(ear, "7");
        // 300000 * 5 / 12 = 125000; 52083 (.33); 21701 (.25)
        Checks.due("9 cut each minute", ear.round(0, 0), 21701);
        ear.mend(0, 7, 99);
        Checks.due("9 a way is cut up", ear.round(0, -2), 6);
        ear.mend(0, 7, 39);
        Checks.due("9 a way is cut up", ear.round(0, -2), 8);
        ear.mend(0, 7, 40);
        Checks.due("9 a way is cut up", ear.round(0, -2), 6);
        Checks.lay(ear, 0, 2, 1);
        ear.mend(0, 7, 10);
        Checks.due("9 from place 0 on", ear.round(0, -2), 4);
        ear.mend(0, 0, 5);
        Checks.due("9 x and y together", ear.round(0, -2), 5);
        OneEarOfTwo alone = Checks.withPlaces(0, 3);
        alone.mend(0, 5, 7);
        Checks.tell(alone, "6");
        Checks.lay(alone, 0, 0, 18);
        Checks.due("9 the last millionth is left", alone.round(0, 0), 1);
        Checks.due("10 the last millionth is left", alone.ifNot(0, 0), 0);
        Checks.lay(alone, 0, 0, 19);
        Checks.due("9 the last millionth goes", alone.round(0, 0), 0);
        Checks.due("10 the last millionth goes", alone.ifNot(0, 0), -2);
        OneEarOfTwo thirds = Checks.withPlaces(0, 1, 0, 1, 0, 1);
        Checks.lay(thirds, 0, 7, 1);
        Checks.due("9 shares are cut", thirds.round(0, 2), 333333);
    }

    private static void roundEnds() {
        OneEarOfTwo ear = yard();
        Checks.lay(ear, 0);
        Checks.due("9 empty", ear.round(0, -2), 0);
        Checks.lay(ear, 0, 0, 2, 0);
        Checks.due("9 what lacks", ear.round(0, -3), 1);
        Checks.lay(ear, 0, 0, 2, 3, 1, 0, 1);
        Checks.due("9 no such place", ear.round(0, -3), 1);
        Checks.due("9 no such place", ear.round(0, -2), 2);
        Checks.lay(ear, 0, 0, 2, -1, 1, 0, 1);
        Checks.due("9 place below 0", ear.round(0, -3), 1);
        Checks.lay(ear, 0, 0, 2, 1, 0, 0, 1);
        Checks.due("9 minutes 0", ear.round(0, -3), 1);
        Checks.lay(ear, 0, 0, 2, 1, 100, 0, 1);
        Checks.due("9 minutes 100", ear.round(0, -3), 1);
        Checks.lay(ear, 0, 0, 2, 1, -1, 0, 1);
        Checks.due("9 minutes -1", ear.round(0, -3), 1);
        int[] full = new int[24];
        for (int i = 1; i < 20; i += 2) full[i] = 99;
        full[21] = 9;
        full[23] = 1;
        Checks.lay(ear, 0, full);
        Checks.due("9 up to minute 999", ear.round(0, -2), 999);
        Checks.due("9 none beyond", ear.round(0, -3), 11);
        full[21] = 10;
        Checks.lay(ear, 0, full);
        Checks.due("9 none that would end beyond, and it ends", ear.round(0, -2), 990);
        Checks.due("9 none that would end beyond, and it ends", ear.round(0, -3), 10);
        full[20] = 1;
        full[21] = 8;
        Checks.lay(ear, 0, full);
        Checks.due("9 a way beyond", ear.round(0, -3), 10);
        OneEarOfTwo none = new OneEarOfTwo();
        Checks.lay(none, 0, 0, 1);
        Checks.due("9 without places none", none.round(0, -3), 0);
        int[] most = new int[60];
        for (int i = 1; i < 60; i += 2) most[i] = 1;
        Checks.lay(ear, 0, most);
        Checks.due("9 thirty twos", ear.round(0, -3), 30);
    }

    private static void ifNot() {
        OneEarOfTwo ear = yard();
        Checks.lay(ear, 0);
        Checks.due("10 likeliest", ear.ifNot(0, 0), 1);
        Checks.due("10 of all", ear.ifNot(0, 1), 400000);
        Checks.lay(ear, 0, 1, 1);
        Checks.due("10 where", ear.ifNot(0, 0), 0);
        // 300000 of 300000 + 200000 + 200000 + 100000
        Checks.due("10 millionths", ear.ifNot(0, 1), 375000);
        Checks.lay(ear, 0, 0, 1, 1, 1);
        Checks.due("10 of like ones the least", ear.ifNot(0, 0), 1);
        Checks.tell(ear, "12");
        Checks.lay(ear, 0, 0, 1, 1, 1, 2, 1);
        Checks.due("10 all 0", ear.ifNot(0, 0), -2);
        Checks.due("10 all 0 but GONE", ear.ifNot(0, 1), 0);
        ear.mend(0, 5, 0);
        Checks.due("10 together 0", ear.ifNot(0, 1), 0);
        Checks.lay(ear, 0, 0, 1, 1, 1);
        Checks.due("10 it alone", ear.ifNot(0, 1), 1000000);
        OneEarOfTwo gone = Checks.withPlaces(0, 0);
        gone.mend(0, 5, 9);
        Checks.lay(gone, 0);
        Checks.due("10 GONE alone", gone.ifNot(0, 0), -2);
        Checks.due("10 GONE alone", gone.ifNot(0, 1), 0);
        gone.mend(0, 5, 0);
        Checks.due("10 no odds at all", gone.ifNot(0, 0), -2);
        Checks.due("10 no odds at all", gone.ifNot(0, 1), 0);
    }

    private static void by() {
        OneEarOfTwo ear = yard();
        Checks.lay(ear, 0, 0, 2, 1, 1);
        Checks.due("11 at once", ear.by(0, 0), 0);
        Checks.due("11 first", ear.by(0, 1), 1);
        Checks.due("11 first", ear.by(0, 150000), 1);
        Checks.due("11 second", ear.by(0, 150001), 2);
        Checks.due("11 second", ear.by(0, 225000), 2);
        Checks.due("11 behind the way", ear.by(0, 225001), 5);
        Checks.due("11 all", ear.by(0, 425000), 5);
        Checks.due("11 never", ear.by(0, 425001), -2);
        Checks.due("11 never", ear.by(0, 1000000), -2);
        Checks.lay(ear, 0);
        Checks.due("11 empty, at once", ear.by(0, 0), 0);
        Checks.due("11 empty", ear.by(0, 1), -2);
        OneEarOfTwo sure = Checks.withPlaces(0, 1);
        Checks.tell(sure, "12");
        Checks.lay(sure, 0, 0, 1);
        Checks.due("11 a million", sure.by(0, 1000000), 1);
    }

    private static void next() {
        OneEarOfTwo ear = yard();
        Checks.lay(ear, 0);
        // 150000 in 1 minute; 200000 in 3; 100000 in 3
        Checks.due("12 which", ear.next(0, 1, 0), 0);
        Checks.due("12 growth", ear.next(0, 1, 1), 150000000);
        Checks.lay(ear, 0, 0, 2);
        // 37500 in 1; 200000 in 3; 100000 in 3
        Checks.due("12 which", ear.next(0, 1, 0), 1);
        Checks.due("12 growth is cut", ear.next(0, 1, 1), 66666666);
        Checks.lay(ear, 0, 1, 1);
        // from place 1: 150000 in 3; 100000 in 1; 100000 in 5
        Checks.due("12 from where one is", ear.next(0, 1, 0), 1);
        Checks.due("12 from where one is", ear.next(0, 1, 1), 100000000);
        Checks.tell(ear, "k=1?12;0");
        Checks.due("12 k behind the round", ear.next(0, 1, 1), 200000 * 0 + 400000000);
        Checks.tell(ear, "m=3+1&p=1?12;0");
        Checks.due("12 m goes on", ear.next(0, 1, 0), 0);
        Checks.tell(ear, "m=3&p=1?12;0");
        Checks.due("12 m goes on", ear.next(0, 1, 0), 1);
        Checks.tell(ear, "0");
        Checks.due("12 none grows: the least", ear.next(0, 1, 0), 0);
        Checks.due("12 none grows", ear.next(0, 1, 1), 0);
        OneEarOfTwo eight = Checks.withPlaces(0, 1, 0, 1, 0, 1, 0, 1, 0, 1, 0, 1, 0, 1, 0, 9);
        Checks.lay(eight, 0);
        Checks.due("12 eight places", eight.next(0, 1, 0), 7);
        OneEarOfTwo like = Checks.withPlaces(0, 0, 0, 5, 0, 5);
        Checks.lay(like, 0);
        Checks.due("12 of like ones the least", like.next(0, 1, 0), 1);
        int[] full = new int[20];
        for (int i = 1; i < 20; i += 2) full[i] = 99;
        Checks.lay(ear, 1, full);
        Checks.tell(ear, "6");
        Checks.due("12 up to 999", ear.next(1, 9, 0), 0);
        Checks.due("12 beyond 999", ear.next(1, 10, 0), -2);
        Checks.due("12 beyond 999", ear.next(1, 10, 1), -2);
        Checks.tell(ear, "p=0?0;6");
        Checks.due("12 the way counts", ear.next(1, 7, 0), 1);
        Checks.due("12 beyond 999 with the way", ear.next(1, 8, 0), 0);
        Checks.due("12 beyond 999 with the way", ear.next(1, 8, 1), 0);
    }

    private static void stay() {
        OneEarOfTwo ear = yard();
        Checks.lay(ear, 0);
        Checks.due("13 at no place", ear.stay(0, 0), -2);
        Checks.lay(ear, 0, 3, 1);
        Checks.due("13 at no place: none counts", ear.stay(0, 0), -2);
        Checks.lay(ear, 0, 0, 1);
        // the next ones find 75000, 37500, 18750
        Checks.due("13 none", ear.stay(0, 75001), 0);
        Checks.due("13 one", ear.stay(0, 75000), 1);
        Checks.due("13 one", ear.stay(0, 37501), 1);
        Checks.due("13 two", ear.stay(0, 37500), 2);
        Checks.due("13 all", ear.stay(0, 0), 99);
        Checks.tell(ear, "k<50?0;12");
        Checks.due("13 k goes on", ear.stay(0, 1), 0);
        Checks.tell(ear, "m<4?1;0");
        Checks.due("13 m goes on", ear.stay(0, 1), 3);
        Checks.tell(ear, "k<5?1;0");
        Checks.due("13 k goes on from minute to minute", ear.stay(0, 1), 4);
        Checks.lay(ear, 1, 0, 1, 1, 1, 0, 2);
        Checks.due("13 k of the place where one is", ear.stay(1, 1), 2);
        OneEarOfTwo slow = Checks.withPlaces(0, 1);
        Checks.tell(slow, "k=99?0;k%9=0?1;0");
        Checks.lay(slow, 0, 0, 1);
        Checks.due("13 v 0", slow.stay(0, 0), 99);
        Checks.tell(slow, "k<1?0;k<30?1;k<99?12;1");
        Checks.due("13 what is 0 is less than 1", slow.stay(0, 1), 30);
        Checks.tell(slow, "k=99?0;1");
        Checks.due("13 all but the last", slow.stay(0, 1), 98);
        Checks.tell(slow, "k=100?0;1");
        Checks.due("13 all 99", slow.stay(0, 1), 99);
        Checks.tell(slow, "k=1?0;1");
        Checks.due("13 a minute that finds nothing ends it", slow.stay(0, 1), 0);
        Checks.tell(slow, "1");
        Checks.due("13 as far as there is something", slow.stay(0, 2), lastMinuteOf(2));
        for (int v = 1; v < 60000; v += 991) Checks.due("13 v " + v, slow.stay(0, v), lastMinuteOf(v));
        OneEarOfTwo late = Checks.withPlaces(0, 1);
        Checks.tell(late, "m<950?0;1");
        int[] full = new int[20];
        for (int i = 1; i < 20; i += 2) full[i] = 99;
        Checks.lay(late, 0, full);
        Checks.due("13 till 999", late.stay(0, 1), 9);
        Checks.due("13 nothing is as much as v 0", late.stay(0, 0), 99);
        Checks.tell(late, "m<989?0;k<990?0;1");
        Checks.lay(late, 1, 0, 99);
        Checks.due("13 99", late.stay(1, 0), 99);
    }

    /** Behind one minute at a place of a million, one of twelve each minute: how many more find v. */
    private static int lastMinuteOf(int v) {
        int share = 1000000 * 11 / 12, more = 0;
        while (more < 99 && share - share * 11 / 12 >= v) {
            share = share * 11 / 12;
            more++;
        }
        return more;
    }

    private static void best() {
        OneEarOfTwo ear = yard();
        Checks.due("14 no such place", ear.best(8, 1, -1), -1);
        Checks.due("14 set below 0", ear.best(-1, 1, -1), -1);
        Checks.due("14 n 0", ear.best(1, 0, -1), -1);
        Checks.due("14 n 100", ear.best(1, 100, -1), -1);
        Checks.due("14 k -2", ear.best(1, 1, -2), -1);
        Checks.due("14 none", ear.best(0, 1, -1), 0);
        Checks.due("14 none, the 0th", ear.best(0, 1, 0), -2);
        Checks.due("14 found", ear.best(7, 1, -1), 450000);
        for (int k = 0; k < 3; k++) Checks.due("14 like ones: the first by numbers", ear.best(7, 1, k), k);
        Checks.due("14 not as many", ear.best(7, 1, 3), -2);
        Checks.due("14 some", ear.best(5, 1, -1), 250000);
        Checks.due("14 some, the 1st", ear.best(5, 1, 1), 2);
        // what begins by minute 2 alone finds: place 1 first, then nothing more
        Checks.tell(ear, "m<3?6;0");
        Checks.due("14 place 1", ear.best(7, 1, -1), 200000);
        int[] first = {1, 0, 2};
        for (int k = 0; k < 3; k++) Checks.due("14 place 1 first", ear.best(7, 1, k), first[k]);
        Checks.tell(ear, "m<4?6;0");
        Checks.due("14 place 0, then 1", ear.best(7, 1, -1), 350000);
        // place 2 from minute 2 on, place 1 from minute 7 on: by way of place 0 it would be 8
        Checks.tell(ear, "p=2&m<5?12;p=1&m<8?12;0");
        Checks.due("14 order", ear.best(7, 1, -1), 600000);
        for (int k = 0; k < 3; k++) Checks.due("14 order", ear.best(7, 1, k), 2 - k);
        Checks.tell(ear, "0");
        Checks.due("14 nothing is found", ear.best(7, 1, -1), 0);
        for (int k = 0; k < 3; k++) Checks.due("14 nothing is found: the first by numbers", ear.best(7, 1, k), k);
        Checks.tell(ear, "k=0?12;0");
        Checks.due("14 k begins at 0 in each place", ear.best(7, 1, -1), 900000);
        Checks.tell(ear, "k=1?12;0");
        Checks.due("14 k goes on", ear.best(7, 2, -1), 900000);
        Checks.due("14 k goes on", ear.best(7, 1, -1), 0);
        OneEarOfTwo many = Checks.withPlaces(0, 1, 0, 1, 0, 1, 0, 1, 0, 1, 0, 1, 0, 1, 0, 1);
        Checks.due("14 six", many.best(63, 1, 5), 5);
        Checks.due("14 seven", many.best(127, 1, -1), -5);
        Checks.due("14 seven, the 6th", many.best(127, 1, 6), -5);
        Checks.due("14 eight", many.best(255, 1, 0), -5);
        Checks.due("14 not as many is named ahead of STATE", many.best(127, 1, 7), -2);
        Checks.due("14 no ninth place", many.best(256, 1, -1), -1);
    }

    private static void bestBeyond() {
        OneEarOfTwo ear = Checks.withPlaces(0, 0, 9999, 30, 0, 30, 9999, 30, 0, 10);
        ear.mend(0, 7, 1);
        // 1 from 198 on, 2 from 495 on, 3 from 792 on: then 4 would be from 1089 on
        Checks.tell(ear, "p=1?12*(m<297);p=2?12*(m>494&m<500);p=3?12*(m>791&m<800);12");
        Checks.due("14 beyond 999 finds nothing", ear.best(30, 99, -1), 900000);
        for (int k = 0; k < 4; k++) Checks.due("14 beyond 999", ear.best(30, 99, k), k + 1);
        // 198 yards to 2, 197 to 3, and 9 by way of 4 and 5 to 6; six times 99 more: 998
        OneEarOfTwo exact = Checks.withPlaces(0, 0, 0, 10, 9999, 10, 1, 10, 5, 10, 9, 10, 10, 10);
        exact.mend(0, 7, 1);
        Checks.tell(exact, "p=1?12*(m=0);p=2?12*(m=297);p=3?12*(m=593);12");
        Checks.due("14 as far as 998", exact.best(126, 99, -1), 999996);
        exact.mend(6, 0, 11);
        Checks.due("14 up to 999", exact.best(126, 99, -1), 999996);
        exact.mend(6, 0, 12);
        Checks.due("14 not up to 1000", exact.best(126, 99, -1), 833330);
        OneEarOfTwo last = Checks.withPlaces(0, 0, 9999, 1);
        last.mend(0, 7, 1);
        Checks.lay(last, 0, 0, 99, 0, 99, 0, 99, 0, 99, 0, 99, 0, 99, 0, 99, 0, 99, 1, 9);
        Checks.due("9 ends at 999", last.round(0, -2), 999);
        Checks.due("14 from the 0th, not from nowhere", last.best(2, 99, -1) > 0 ? 1 : 0, 1);
    }

    private static void giveUp() {
        OneEarOfTwo ear = yard();
        Checks.lay(ear, 0, 0, 2, 1, 1, 2, 9);
        // FOUND 225000 at 2; 425000 at 5; then 4 on the way and 199610 more at 18
        Checks.due("15 behind", ear.giveUp(0, 100000, 0), 3);
        Checks.due("15 pence", ear.giveUp(0, 100000, 1), 624);
        // 1000: 225 - 40; 425 - 100; 624 - 360
        Checks.due("15 behind", ear.giveUp(0, 100020, 0), 2);
        Checks.due("15 pence", ear.giveUp(0, 100020, 1), 325);
        // 225 - 180; 425 - 450
        Checks.due("15 behind", ear.giveUp(0, 100090, 0), 1);
        Checks.due("15 pence", ear.giveUp(0, 100090, 1), 45);
        Checks.due("15 at once", ear.giveUp(0, 99, 0), 0);
        Checks.due("15 at once", ear.giveUp(0, 99, 1), 0);
        Checks.due("15 nothing at all", ear.giveUp(0, 0, 0), 0);
        Checks.due("15 all of it", ear.giveUp(0, 999900, 1), 6245);
        Checks.lay(ear, 0, 3, 1);
        Checks.due("15 empty", ear.giveUp(0, 999999, 0), 0);
        Checks.tell(ear, "k<1?6;0");
        Checks.lay(ear, 0, 0, 1, 0, 1);
        Checks.due("15 of like ones the least", ear.giveUp(0, 100000, 0), 1);
    }

    private static void seen() {
        OneEarOfTwo ear = yard();
        Checks.due("16 itself", ear.seen(0, 0), 1);
        Checks.due("16 29", ear.seen(0, 29), 1);
        Checks.due("16 30", ear.seen(0, 30), 5);
        Checks.due("16 40", ear.seen(0, 40), 7);
        Checks.due("16 together", ear.seen(3040, 30), 2);
        Checks.due("16 together", ear.seen(3040, 40), 6);
        Checks.due("16 far", ear.seen(9999, 99), 0);
        Checks.due("16 y is a hundredth of xy", ear.seen(3000, 0), 4);
        ear.mend(2, 0, 99);
        ear.mend(2, 1, 99);
        Checks.due("16 the farthest", ear.seen(9999, 0), 4);
        Checks.due("16 next to it", ear.seen(9899, 0), 0);
        Checks.due("16 next to it", ear.seen(9899, 1), 4);
        Checks.due("16 xy below", ear.seen(-1, 5), -1);
        Checks.due("16 xy above", ear.seen(10000, 5), -1);
        Checks.due("16 yards below", ear.seen(0, -1), -1);
        Checks.due("16 yards above", ear.seen(0, 100), -1);
        Checks.due("16 none", new OneEarOfTwo().seen(0, 99), 0);
    }

    private static void dead() {
        OneEarOfTwo ear = yard();
        Checks.lay(ear, 0);
        Checks.due("17 at no place", ear.dead(0), -2);
        Checks.lay(ear, 0, 1, 1);
        // 12 * 200000 / 800000
        Checks.due("17 a quarter", ear.dead(0), 3);
        Checks.lay(ear, 0, 2, 1);
        // 12 * 100000 / 900000
        Checks.due("17 is cut", ear.dead(0), 1);
        Checks.lay(ear, 0, 0, 1);
        // 12 * 150000 / 850000
        Checks.due("17 at place 0", ear.dead(0), 2);
        Checks.tell(ear, "12");
        Checks.lay(ear, 0, 0, 1, 1, 1, 2, 1);
        Checks.due("17 GONE alone is left", ear.dead(0), 0);
        for (int p = 0; p < 3; p++) ear.mend(p, 2, 0);
        ear.mend(0, 5, 1);
        Checks.due("17 GONE alone, of 1", ear.dead(0), 0);
        for (int p = 0; p < 3; p++) ear.undo();
        ear.undo();
        ear.mend(0, 5, 0);
        Checks.due("17 all are 0", ear.dead(0), -2);
        Checks.tell(ear, "p=2?0;12");
        Checks.due("17 it alone", ear.dead(0), 12);
    }
}
