/** Promises 24 to 32: in deed. */
public final class DeedTest {
    public static void main(String[] args) {
        go();
        listen();
        find();
        again();
        led();
        imageAndBack();
        undoAndRedo();
        fortyChanges();
        Checks.end("DeedTest");
    }

    /** At (10, 0), (50, 0) and (10, 30), shares 300000, 400000, 200000, GONE 100000. */
    private static OneEarOfTwo yard() {
        OneEarOfTwo ear = Checks.withPlaces(10, 30, 50, 40, 3010, 20);
        ear.mend(0, 5, 10);
        Checks.tell(ear, "6");
        return ear;
    }

    private static void go() {
        OneEarOfTwo ear = new OneEarOfTwo();
        Checks.due("24 no place", ear.go(0), -1);
        ear = yard();
        Checks.due("24 below", ear.go(-1), -1);
        Checks.due("24 above", ear.go(3), -1);
        Checks.due("24 from place 0's x, y at first", ear.go(1), 2);
        Checks.due("24 cut up", ear.go(2), 6);
        Checks.due("24 where one is", ear.go(2), 6);
        Checks.due("24 at", ear.led(5), 2);
        Checks.due("24 goings", ear.led(1), 3);
        ear.mend(0, 7, 1);
        for (int i = 0; i < 14; i++) ear.go(i % 2 == 0 ? 1 : 2);
        Checks.due("24 now", ear.led(0), 986);
        Checks.due("24 beyond", ear.go(1), -5);
        Checks.due("24 changes nothing", ear.led(5), 2);
        Checks.due("24 changes nothing", ear.led(0), 986);
        Checks.due("24 changes nothing", ear.led(1), 17);
        ear.mend(1, 0, 23);
        ear.mend(1, 1, 30);
        Checks.due("24 up to 999", ear.go(1), 999);
        ear.mend(1, 0, 9);
        ear.mend(1, 1, 29);
        Checks.due("24 beyond 999", ear.go(2), -5);
    }

    private static void listen() {
        OneEarOfTwo ear = yard();
        Checks.due("25 at no place", ear.listen(1), -5);
        Checks.due("25 n 0", ear.listen(0), -1);
        Checks.due("25 n 100", ear.listen(100), -1);
        Checks.due("25 n -1", ear.listen(-1), -1);
        ear.go(1);
        Checks.due("25 ahead of again shares are 0", ear.listen(3), 0);
        Checks.due("25 and time goes on", ear.led(0), 5);
        ear.again();
        Checks.due("25 found", ear.listen(2), 225000);
        Checks.due("25 share", ear.of(0, 14), 75000);
        Checks.due("25 minutes", ear.of(0, 15), 2);
        Checks.due("25 found", ear.listen(1), 37500);
        Checks.tell(ear, "k=3&m=3?12;0");
        Checks.due("25 k and m", ear.listen(1), 37500);
        Checks.due("25 share", ear.of(0, 14), 0);
        ear.go(1);
        Checks.tell(ear, "k=0&m=6?7;k=1&m=7?7;0");
        // 400000 * 5 / 12 = 166666; 69444
        Checks.due("25 cut each minute", ear.listen(2), 330556);
        for (int i = 0; i < 10; i++) ear.listen(99);
        Checks.due("25 now", ear.led(0), 998);
        Checks.due("25 beyond", ear.listen(2), -5);
        Checks.due("25 changes nothing", ear.led(0), 998);
        Checks.due("25 up to 999", ear.listen(1), 0);
        Checks.due("25 now", ear.led(0), 999);
        Checks.due("25 beyond 999", ear.listen(1), -5);
        Checks.due("25 bad ahead of STATE", ear.listen(100), -1);
    }

    private static void find() {
        OneEarOfTwo ear = yard();
        Checks.due("26 below", ear.find(-1), -1);
        Checks.due("26 above", ear.find(3), -1);
        Checks.due("26 finds", ear.led(4), 0);
        ear.again();
        Checks.due("26 share it had", ear.find(1), 400000);
        Checks.due("26 others", ear.of(0, 14), 0);
        Checks.due("26 its", ear.of(1, 14), 1000000);
        Checks.due("26 again", ear.find(1), 1000000);
        Checks.due("26 another", ear.find(2), 0);
        Checks.due("26 others", ear.of(1, 14), 0);
        Checks.due("26 finds", ear.led(4), 3);
        Checks.due("26 is not FOUND by listening", ear.led(3), 0);
        Checks.due("26 one stays where one is", ear.led(5), 0);
        ear.go(2);
        Checks.due("26 listening behind it", ear.listen(1), 500000);
    }

    private static void again() {
        OneEarOfTwo ear = new OneEarOfTwo();
        Checks.due("27 no places", ear.again(), 0);
        Checks.due("27 at no place", ear.led(5), -2);
        ear.place(0, 1);
        Checks.due("27 a place came since", ear.of(0, 14), 0);
        Checks.due("27 a place came since: one is at none", ear.led(5), -2);
        Checks.due("27 one place", ear.again(), 1000000);
        Checks.due("27 at the only place", ear.led(5), 0);
        ear.place(0, 1);
        ear.place(0, 1);
        Checks.due("27 cut", ear.again(), 999999);
        Checks.due("27 at place 0", ear.led(5), 0);
        ear.go(1);
        ear.listen(5);
        ear.mend(0, 2, 2);
        Checks.due("27 odds as they are then", ear.again(), 1000000);
        Checks.due("27 share", ear.of(0, 14), 500000);
        Checks.due("27 now", ear.led(0), 0);
        Checks.due("27 nothing listened", ear.of(1, 15), 0);
        Checks.due("27 at place 0", ear.led(5), 0);
        ear.mend(0, 2, 0);
        Checks.due("27 a mend does not reach shares in deed", ear.of(0, 14), 500000);
        ear.place(0, 9);
        Checks.due("27 a place that came since", ear.of(3, 14), 0);
        ear.mend(0, 5, 11);
        Checks.due("27 with GONE, cut", ear.again(), 499998);
    }

    private static void led() {
        OneEarOfTwo ear = yard();
        Checks.due("28 what", ear.led(-1), -1);
        Checks.due("28 what", ear.led(6), -1);
        ear.again();
        ear.listen(2);
        ear.go(1);
        ear.listen(1);
        ear.find(1);
        ear.again();
        Checks.due("28 now", ear.led(0), 0);
        Checks.due("28 goings ever", ear.led(1), 1);
        Checks.due("28 minutes ever", ear.led(2), 3);
        Checks.due("28 found ever", ear.led(3), 425000);
        Checks.due("28 finds ever", ear.led(4), 1);
        ear.listen(1);
        Checks.due("28 now", ear.led(0), 1);
        Checks.due("28 minutes go on", ear.led(2), 4);
        Checks.due("28 found goes on", ear.led(3), 575000);
        Checks.due("28 at", ear.led(5), 0);
    }

    private static void imageAndBack() {
        OneEarOfTwo ear = yard();
        Checks.due("30 none", ear.back(), -5);
        ear.go(1);
        Checks.due("29 now", ear.image(), 2);
        ear.again();
        ear.listen(3);
        ear.find(0);
        Checks.due("30 now", ear.back(), 2);
        int[] want = {2, 1, 0, 0, 0, 1};
        for (int what = 0; what < 6; what++) Checks.due("30 led " + what, ear.led(what), want[what]);
        Checks.due("30 share", ear.of(0, 14), 0);
        Checks.due("30 listened", ear.of(0, 15), 0);
        ear.again();
        ear.listen(2);
        ear.go(2);
        ear.listen(3);
        Checks.due("29 another takes its place", ear.image(), 7);
        ear.place(77, 50);
        ear.mend(0, 3, 9);
        ear.again();
        ear.go(3);
        ear.listen(4);
        Checks.due("30 now", ear.back(), 7);
        Checks.due("30 share", ear.of(0, 14), 75000);
        Checks.due("30 share", ear.of(1, 14), 400000);
        Checks.due("30 share", ear.of(2, 14), 25000);
        Checks.due("30 listened", ear.of(0, 15), 2);
        Checks.due("30 listened", ear.of(2, 15), 3);
        Checks.due("30 a place that came since", ear.of(3, 14), 0);
        Checks.due("30 a place that came since", ear.of(3, 15), 0);
        Checks.due("30 places stay", ear.count(0), 4);
        Checks.due("30 numbers of mend() stay", ear.of(0, 3), 9);
        int[] behind = {7, 2, 5, 400000, 0, 2};
        for (int what = 0; what < 6; what++) Checks.due("30 led " + what, ear.led(what), behind[what]);
        ear.listen(9);
        Checks.due("30 once more", ear.back(), 7);
        Checks.due("30 once more", ear.of(2, 15), 3);
        OneEarOfTwo nowhere = yard();
        nowhere.image();
        nowhere.again();
        nowhere.back();
        Checks.due("30 at no place", nowhere.led(5), -2);
    }

    /** How many of the 47 mends of fortyChanges() are changes that came ahead of the last forty. */
    private static int mostAhead() {
        OneEarOfTwo ear = Checks.withPlaces(0, 0, 0, 0, 0, 0, 0, 0, 0, 0);
        int changes = 0;
        for (int i = 0; i < 47; i++) {
            int becomes = i % 9 + 1;
            if (ear.mend(i * 7 % 5, i * 3 % 4, becomes) != becomes) changes++;
        }
        return changes - 40;
    }

    private static void undoAndRedo() {
        OneEarOfTwo ear = yard();
        Checks.due("31 one change", ear.count(2), 1);
        ear.mend(0, 3, 9);
        ear.mend(1, 0, 7);
        Checks.due("4 the same is none", ear.mend(1, 0, 7), 7);
        Checks.due("31 three", ear.count(2), 3);
        Checks.due("31 undo", ear.undo(), 2);
        Checks.due("31 the latest first", ear.of(1, 0), 50);
        Checks.due("31 the others stay", ear.of(0, 3), 9);
        Checks.due("31 undo", ear.undo(), 1);
        Checks.due("31 undone", ear.of(0, 3), 5);
        Checks.due("32 redo", ear.redo(), 1);
        Checks.due("32 done again", ear.of(0, 3), 9);
        Checks.due("32 not yet", ear.of(1, 0), 50);
        Checks.due("32 the same number is no change", ear.mend(0, 3, 9), 9);
        ear.go(1);
        ear.place(0, 0);
        Checks.due("32 redo", ear.redo(), 0);
        Checks.due("32 done again", ear.of(1, 0), 7);
        Checks.due("32 none", ear.redo(), -5);
        ear.undo();
        ear.undo();
        ear.mend(0, 7, 30);
        Checks.due("32 another came behind", ear.redo(), -5);
        Checks.due("31 undo", ear.undo(), 1);
        Checks.due("31 pace", ear.of(0, 7), 20);
        Checks.due("31 undo", ear.undo(), 0);
        Checks.due("31 gone", ear.of(0, 5), 0);
        Checks.due("31 none", ear.undo(), -5);
        Checks.due("32 all again", ear.redo(), 1);
        Checks.due("32 gone", ear.of(0, 5), 10);
        Checks.due("4 bad is no change", ear.mend(0, 7, 0), -1);
        Checks.due("32 goes on behind it", ear.redo(), 0);
        Checks.due("32 pace", ear.of(0, 7), 30);
    }

    private static void fortyChanges() {
        OneEarOfTwo places = Checks.withPlaces(0, 0, 0, 0, 0, 0, 0, 0, 0, 0);
        // the first ones are forgotten: what lies behind them must still be of its own PLACE
        for (int i = 0; i < 47; i++) places.mend(i * 7 % 5, i * 3 % 4, i % 9 + 1);
        int[] shown = new int[20];
        for (int i = 0; i < 20; i++) shown[i] = places.of(i / 4, i % 4);
        int kept = places.count(2);
        Checks.due("31 forty of places", kept, 40);
        for (int i = 0; i < 40; i++) places.undo();
        OneEarOfTwo first = Checks.withPlaces(0, 0, 0, 0, 0, 0, 0, 0, 0, 0);
        for (int i = 0; first.count(2) < mostAhead(); i++) first.mend(i * 7 % 5, i * 3 % 4, i % 9 + 1);
        for (int i = 0; i < 20; i++) Checks.due("31 number " + i, places.of(i / 4, i % 4), first.of(i / 4, i % 4));
        for (int i = 0; i < 40; i++) places.redo();
        for (int i = 0; i < 20; i++) Checks.due("32 number " + i, places.of(i / 4, i % 4), shown[i]);
        OneEarOfTwo ear = new OneEarOfTwo();
        for (int i = 1; i <= 45; i++) {
            ear.mend(0, i % 2 == 0 ? 8 : 9, 1000 + i);
            Checks.due("31 kept", ear.count(2), Math.min(i, 40));
        }
        for (int left = 39; left >= 0; left--) Checks.due("31 undo", ear.undo(), left);
        Checks.due("31 no more", ear.undo(), -5);
        Checks.due("31 the fifth stays", ear.of(0, 9), 1005);
        Checks.due("31 the fourth stays", ear.of(0, 8), 1004);
        for (int left = 39; left >= 0; left--) Checks.due("32 redo", ear.redo(), left);
        Checks.due("32 no more", ear.redo(), -5);
        Checks.due("32 the last", ear.of(0, 9), 1045);
        Checks.due("32 the last but one", ear.of(0, 8), 1044);
    }
}
