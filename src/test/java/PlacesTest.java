/** Promises 1 to 8. */
public final class PlacesTest {
    public static void main(String[] args) {
        newObject();
        place();
        places();
        mend();
        of();
        feed();
        lawTakesTheTape();
        lawWithoutText();
        lawWorksOut();
        lawFaults();
        hears();
        Checks.end("PlacesTest");
    }

    private static void newObject() {
        OneEarOfTwo ear = new OneEarOfTwo();
        int[] first = {0, 180, 20, 60, 90, 3, 20, 60, 20};
        for (int i = 0; i < first.length; i++) Checks.due("1 of(0, " + (5 + i) + ")", ear.of(0, 5 + i), first[i]);
        for (int what = 0; what < 5; what++) Checks.due("1 count " + what, ear.count(what), 0);
        for (int shelf = 0; shelf < 6; shelf++) Checks.due("1 shelf", ear.put(shelf, 0, 1), -11);
        for (int what = 0; what < 5; what++) Checks.due("1 led", ear.led(what), 0);
        Checks.due("1 led 5", ear.led(5), -2);
        Checks.due("1 back", ear.back(), -5);
        Checks.due("1 undo", ear.undo(), -5);
        Checks.due("1 redo", ear.redo(), -5);
        OneEarOfTwo other = new OneEarOfTwo();
        other.place(5, 5);
        Checks.due("1 another object is another", ear.count(0), 0);
    }

    private static void place() {
        OneEarOfTwo ear = new OneEarOfTwo();
        Checks.due("2 xy below", ear.place(-1, 5), -1);
        Checks.due("2 xy above", ear.place(10000, 5), -1);
        Checks.due("2 odds below", ear.place(0, -1), -1);
        Checks.due("2 odds above", ear.place(0, 100), -1);
        Checks.due("2 none came", ear.count(0), 0);
        for (int p = 0; p < 8; p++) Checks.due("2 number", ear.place(100 * (p + 10) + p, 99 - p), p);
        Checks.due("2 full", ear.place(0, 0), -3);
        Checks.due("2 bad ahead of full", ear.place(0, 100), -1);
        for (int p = 0; p < 8; p++) {
            Checks.due("2 x", ear.of(p, 0), p);
            Checks.due("2 y", ear.of(p, 1), p + 10);
            Checks.due("2 odds", ear.of(p, 2), 99 - p);
            Checks.due("2 hush", ear.of(p, 3), 5);
            Checks.due("2 deep", ear.of(p, 4), 0);
        }
        Checks.due("2 is no CHANGE", ear.undo(), -5);
        OneEarOfTwo far = Checks.withPlaces(9999, 99);
        Checks.due("2 farthest x", far.of(0, 0), 99);
        Checks.due("2 farthest y", far.of(0, 1), 99);
    }

    private static void places() {
        OneEarOfTwo ear = new OneEarOfTwo();
        Checks.due("3 shelf", ear.places(-1, 0, 1), -1);
        Checks.due("3 shelf", ear.places(6, 0, 1), -1);
        Checks.due("3 n 0", ear.places(0, 0, 0), -1);
        Checks.due("3 n 9", ear.places(0, 0, 9), -1);
        Checks.due("3 missing", ear.places(0, 0, 8), 0);
        ear.body(0);
        ear.keep(1, 0);
        Checks.due("3 body", ear.places(1, 0, 1), -12);
        for (int sort = 1; sort < 5; sort++) {
            ear.row(1, sort, 9);
            Checks.due("3 sort", ear.places(1, 0, 1), -12);
            Checks.due("3 sort ahead of i below 0", ear.places(1, -1, 1), -12);
        }
        Checks.lay(ear, 0, 1, 2, 3, 4, 5, 6, 7, 8);
        Checks.due("3 i below 0", ear.places(0, -1, 2), 0);
        Checks.due("3 i below 0", ear.places(0, Integer.MIN_VALUE, 2), 0);
        Checks.due("3 i above", ear.places(0, Integer.MAX_VALUE, 8), 0);
        Checks.due("3 ends within a three", ear.places(0, 0, 8), 2);
        Checks.due("3 x", ear.of(1, 0), 4);
        Checks.due("3 y", ear.of(1, 1), 5);
        Checks.due("3 odds", ear.of(1, 2), 6);
        Checks.due("3 from i on", ear.places(0, 5, 1), 1);
        Checks.due("3 from i on", ear.of(2, 0), 6);
        Checks.due("3 last i", ear.places(0, 6, 1), 0);
        Checks.due("3 n of them", ear.places(0, 0, 1), 1);
        Checks.lay(ear, 2, 0, 0, 0, 9, 9, 9, 1, -1, 5, 1, 1, 1);
        Checks.due("3 ends where one is not so", ear.places(2, 0, 4), 2);
        Checks.lay(ear, 2, 100, 0, 0);
        Checks.due("3 x 100", ear.places(2, 0, 1), 0);
        Checks.lay(ear, 2, 0, 0, 100);
        Checks.due("3 odds 100", ear.places(2, 0, 1), 0);
        Checks.lay(ear, 2, 99, 99, 99, 99, 99, 99, 99, 99, 99);
        Checks.due("3 till full", ear.places(2, 0, 3), 2);
        Checks.due("3 full", ear.places(2, 0, 3), 0);
        Checks.due("3 eight", ear.count(0), 8);
    }

    private static void mend() {
        OneEarOfTwo ear = Checks.withPlaces(203, 7);
        int[] first = {3, 2, 7, 5, 0, 0, 180, 20, 60, 90, 3, 20, 60, 20};
        int[] least = {0, 0, 0, 0, 0, 0, 0, 1, 0, 0, 0, 0, 1, 1};
        int[] most = {99, 99, 99, 9, 9, 99, 999, 99, 9999, 9999, 12, 9999, 99, 99};
        for (int what = 0; what < 14; what++) {
            Checks.due("4 below " + what, ear.mend(0, what, least[what] - 1), -1);
            Checks.due("4 above " + what, ear.mend(0, what, most[what] + 1), -1);
            Checks.due("4 was " + what, ear.mend(0, what, most[what]), first[what]);
            Checks.due("4 is " + what, ear.of(0, what), most[what]);
            Checks.due("4 was " + what, ear.mend(0, what, least[what]), most[what]);
            Checks.due("4 is " + what, ear.of(0, what), least[what]);
            Checks.due("4 another number " + what, ear.mend(1, what, least[what]), -1);
            Checks.due("4 number below " + what, ear.mend(-1, what, least[what]), -1);
        }
        Checks.due("4 what below", ear.mend(0, -1, 1), -1);
        Checks.due("4 what above", ear.mend(0, 14, 1), -1);
        Checks.due("4 no SHARE", ear.mend(0, 15, 1), -1);
        Checks.due("4 without places", new OneEarOfTwo().mend(0, 4, 1), -1);
    }

    private static void of() {
        OneEarOfTwo ear = Checks.withPlaces(203, 30, 9900, 10);
        Checks.due("5 share ahead of again", ear.of(0, 14), 0);
        ear.again();
        Checks.due("5 share", ear.of(0, 14), 750000);
        Checks.due("5 share", ear.of(1, 14), 250000);
        ear.listen(3);
        Checks.due("5 listened", ear.of(0, 15), 3);
        Checks.due("5 listened", ear.of(1, 15), 0);
        Checks.due("5 x", ear.of(1, 0), 0);
        Checks.due("5 y", ear.of(1, 1), 99);
        for (int what = 0; what < 5; what++) Checks.due("5 no place", ear.of(2, what), -1);
        for (int what = 5; what < 14; what++) Checks.due("5 number 1", ear.of(1, what), -1);
        Checks.due("5 no place 14", ear.of(2, 14), -1);
        Checks.due("5 no place 15", ear.of(-1, 15), -1);
        Checks.due("5 what below", ear.of(0, -1), -1);
        Checks.due("5 what above", ear.of(0, 16), -1);
    }

    private static void feed() {
        OneEarOfTwo ear = new OneEarOfTwo();
        Checks.due("6 below", ear.feed(-1), -1);
        Checks.due("6 above", ear.feed(256), -1);
        for (int i = 1; i <= 120; i++) Checks.due("6 has", ear.feed(i == 1 ? 0 : i == 2 ? 255 : 49), i);
        Checks.due("6 full", ear.feed(49), -3);
        Checks.due("6 bad ahead of full", ear.feed(256), -1);
        Checks.due("6 count", ear.count(1), 120);
    }

    private static void lawTakesTheTape() {
        OneEarOfTwo ear = Checks.withPlaces(0, 1);
        Checks.due("7 empty", ear.law(), -100);
        Checks.due("7 law", Checks.tell(ear, "7"), 1);
        Checks.due("7 tape is empty", ear.count(1), 0);
        Checks.due("7 gives", ear.hears(0, 0), 7);
        Checks.due("7 fault", Checks.tell(ear, "8+"), -102);
        Checks.due("7 tape is empty behind a fault", ear.count(1), 0);
        Checks.due("7 a fault leaves the law", ear.hears(0, 0), 7);
        Checks.due("7 another law", Checks.tell(ear, "h-d+3"), 1);
        Checks.due("7 gives", ear.hears(0, 0), 8);
        Checks.due("7 fault", Checks.tell(ear, "1*2*d*2+"), -108);
        Checks.due("7 a fault leaves the law", ear.hears(0, 0), 8);
        Checks.due("7 another law", Checks.tell(ear, "4"), 1);
        Checks.due("7 gives", ear.hears(0, 0), 4);
        StringBuilder longest = new StringBuilder("1");
        while (longest.length() < 119) longest.append("+0");
        Checks.due("7 119 bytes", Checks.tell(ear, longest.toString()), 1);
        Checks.due("7 gives", ear.hears(0, 0), 1);
        String lines = "0?1;".repeat(29) + "0?1;";
        Checks.due("7 120 bytes that end too early", Checks.tell(ear, lines), -220);
        Checks.due("7 120 bytes", Checks.tell(ear, "0?1;".repeat(29) + "0?12"), 1);
        Checks.due("7 none counts", ear.hears(0, 0), 0);
    }

    private static void lawWithoutText() {
        OneEarOfTwo ear = Checks.withPlaces(0, 1);
        Checks.due("7 bare", ear.hears(0, 0), 5);
        ear.mend(0, 4, 5);
        Checks.due("7 bare, like", ear.hears(0, 0), 0);
        ear.mend(0, 4, 9);
        Checks.due("7 bare, below 0", ear.hears(0, 0), 0);
        Checks.due("7 bare, dead and deep", ear.hears(0, 180), 0);
        ear.mend(0, 4, 0);
        Checks.due("7 bare, last minute of CURRENT", ear.hears(0, 179), 5);
        Checks.due("7 bare, dead", ear.hears(0, 180), 1);
        Checks.due("7 bare, long dead", ear.hears(0, 999), 1);
    }

    private static void gives(String text, int want) {
        OneEarOfTwo ear = Checks.withPlaces(0, 1, 1, 1);
        ear.mend(1, 3, 9);
        ear.mend(1, 4, 2);
        Checks.due("7 " + text, Checks.tell(ear, text), 1);
        // k 3, minute 170: 10 minutes of CURRENT are left
        Checks.due("8 " + text, ear.hears(1, 3170), want);
    }

    private static void lawWorksOut() {
        gives("h", 9);
        gives("d", 2);
        gives("k", 3);
        gives("m/17", 10);
        gives("c", 10);
        gives("p", 1);
        gives("m-200+c*4", 10);
        gives("13", 12);
        gives("12", 12);
        gives("-1", 0);
        gives("0-1", 0);
        gives("0011", 11);
        gives("9999/1000", 9);
        gives("2+3*2", 8);
        gives("(2+3)*2", 10);
        gives("10-3-2", 5);
        gives("12/5*5", 10);
        gives("12/4/3", 1);
        gives("11%4", 3);
        gives("-7/2+9", 6);
        gives("-7%4+9", 6);
        gives("5/0", 0);
        gives("5%0+1", 1);
        gives("0-9999*9999*9999/0", 0);
        gives("!0", 1);
        gives("!5", 0);
        gives("!!5", 1);
        gives("!-0+2", 3);
        gives("--4", 4);
        gives("-!0+3", 2);
        gives("-(1-4)", 3);
        gives("1<2", 1);
        gives("2<2", 0);
        gives("2=2", 1);
        gives("2=3", 0);
        gives("3>2", 1);
        gives("3>3", 0);
        gives("(3>2)+(2>1)+1", 3);
        gives("1+1=2", 1);
        gives("2&4", 1);
        gives("2&0", 0);
        gives("0|7", 1);
        gives("0|0", 0);
        gives("(0|0)+(0&0)+(1<0)+(1=0)+(0>1)+!1+7", 7);
        gives("1?0|1", 1);
        gives("1?(0|1)+2;5", 3);
        gives("0|1?3;5", 3);
        gives("1|0&0", 1);
        gives("0&0|1", 1);
        gives("0&(0|1)", 0);
        gives("1&2<3", 1);
        gives("1?4", 4);
        gives("0?4", 0);
        gives("0?4;6", 6);
        gives("0?4;2?7;9", 7);
        gives("3;4", 3);
        gives("-1?5;6", 5);
        gives("k>3?1;k>2?2;3", 2);
        gives("0?1;0?2;0?3", 0);
        gives("p=0?1;p=1?2", 2);
        // 2147483647 and one more wraps to below 0
        gives("9999*9999*21>0", 1);
        gives("9999*9999*22<0", 1);
        gives("(0-9999*9999*22)/(0-1)<0", 1);
        gives("!!!!!!5", 1);
        gives("((((((8))))))", 8);
        gives("!(!(!(8)))", 0);
        gives("-1+-1+-1+-1+-1+-1+-1+-1+9", 1);
        gives("(1)+(1)+(1)+(1)+(1)+(1)+(1)+(1)", 8);
    }

    private static void faultAt(String text, int want) {
        Checks.due("7 fault of " + text, Checks.tell(new OneEarOfTwo(), text), -100 - want);
    }

    private static void lawFaults() {
        faultAt("", 0);
        faultAt("?", 0);
        faultAt(";", 0);
        faultAt("+1", 0);
        faultAt(" 1", 0);
        faultAt("1 ", 1);
        faultAt("x", 0);
        faultAt("H", 0);
        faultAt("12345", 4);
        faultAt("1+", 2);
        faultAt("1;", 2);
        faultAt("1;;", 2);
        faultAt("1?", 2);
        faultAt("1??", 2);
        faultAt("1?2?3", 3);
        faultAt("1<2<3", 3);
        faultAt("1<2=3", 3);
        faultAt("1=2>3", 3);
        faultAt("(1", 2);
        faultAt("(1?2)", 2);
        faultAt("(1;2)", 2);
        faultAt("()", 1);
        faultAt("1)", 1);
        faultAt("(1))", 3);
        faultAt("hd", 1);
        faultAt("1h", 1);
        faultAt("h1", 1);
        faultAt("h!d", 1);
        faultAt("h(d)", 1);
        faultAt("(h)d", 3);
        faultAt("!", 1);
        faultAt("!+", 1);
        faultAt("(((((((1)))))))", 6);
        faultAt("!!!!!!!1", 6);
        faultAt("-------1", 6);
        faultAt("-(!(-(!1)))", 6);
        faultAt("1?!!!!!!!1", 8);
        faultAt("1;(((((((1", 8);
        faultAt("-(!(-((1))))", 6);
        faultAt("1&&1", 2);
        faultAt("1||1", 2);
        faultAt("1==1", 2);
        faultAt("1<=1", 2);
        faultAt("2*/3", 2);
        for (String text : new String[] {"------1", "1?!!!!!!1", "1?((((((1))))));!!!!!!1", "2*-3", "2%!3", "1&2<3&4<5|6", "1?2;3?4;5", "-(!(-(1)))"}) {
            Checks.due("7 " + text, Checks.tell(new OneEarOfTwo(), text), 1);
        }
        OneEarOfTwo ear = new OneEarOfTwo();
        ear.feed('1');
        ear.feed(0);
        Checks.due("7 byte 0", ear.law(), -101);
        ear.feed(255);
        Checks.due("7 byte 255", ear.law(), -100);
    }

    private static void hears() {
        OneEarOfTwo ear = Checks.withPlaces(0, 1);
        Checks.due("8 no place", ear.hears(1, 0), -1);
        Checks.due("8 no place", ear.hears(-1, 0), -1);
        Checks.due("8 km below", ear.hears(0, -1), -1);
        Checks.due("8 km above", ear.hears(0, 1000000), -1);
        Checks.tell(ear, "k-990");
        Checks.due("8 k 999", ear.hears(0, 999123), 9);
        Checks.tell(ear, "m-990");
        Checks.due("8 m 999", ear.hears(0, 123999), 9);
        Checks.tell(ear, "c-175");
        Checks.due("8 c at 0", ear.hears(0, 0), 5);
        Checks.tell(ear, "c+5");
        Checks.due("8 c not below 0", ear.hears(0, 999), 5);
        ear.mend(0, 6, 0);
        Checks.due("8 CURRENT 0", ear.hears(0, 0), 5);
    }
}
