/** What the tests share: counting wrong answers, and common beginnings. */
final class Checks {
    private static int wrong = 0;
    private static int asked = 0;

    private Checks() {
    }

    static void due(String call, long got, long want) {
        asked++;
        if (got == want) return;
        wrong++;
        if (wrong <= 40) System.out.println(call + " answered " + got + ", due is " + want);
    }

    static void fault(String told) {
        wrong++;
        if (wrong <= 40) System.out.println(told);
    }

    static void end(String name) {
        System.out.println(name + ": " + asked + " answers, " + wrong + " wrong");
        if (wrong != 0) System.exit(1);
    }

    /** Feeds a text and makes it THE LAW. */
    static int tell(OneEarOfTwo ear, String text) {
        for (int i = 0; i < text.length(); i++) ear.feed(text.charAt(i));
        return ear.law();
    }

    /** Lays a ROW of bytes on a SHELF. */
    static void lay(OneEarOfTwo ear, int shelf, int... bytes) {
        ear.row(shelf, 0, bytes.length);
        for (int i = 0; i < bytes.length; i++) ear.put(shelf, i, bytes[i]);
    }

    static OneEarOfTwo withPlaces(int... xyAndOdds) {
        OneEarOfTwo ear = new OneEarOfTwo();
        for (int i = 0; i + 1 < xyAndOdds.length; i += 2) ear.place(xyAndOdds[i], xyAndOdds[i + 1]);
        return ear;
    }
}
