/** Promises 33 to 42: acts, shelves. */
public final class ShelvesTest {
    public static void main(String[] args) {
        body();
        actsAgainstJava();
        traces();
        keep();
        row();
        put();
        element();
        shift();
        shiftRefusals();
        taken();
        count();
        constants();
        Checks.end("ShelvesTest");
    }

    private static OneEarOfTwo withBodies() {
        OneEarOfTwo ear = new OneEarOfTwo();
        for (int kind = 0; kind < 8; kind++) ear.body(kind);
        return ear;
    }

    private static void body() {
        OneEarOfTwo ear = new OneEarOfTwo();
        Checks.due("33 kind", ear.body(-1), -1);
        Checks.due("33 kind", ear.body(8), -1);
        for (int i = 0; i < 50; i++) Checks.due("33 number", ear.body(i % 8), i);
        Checks.due("33 full", ear.body(0), -3);
        Checks.due("33 bad ahead of full", ear.body(8), -1);
        Checks.due("42 bodies", ear.count(3), 50);
        Checks.due("34 the last body", ear.act(49, 0, 1), 50 + 3);
    }

    // the KINDS as classes: Java itself says whose body an act comes to

    private static final StringBuilder ran = new StringBuilder();

    private static void runs(int number) {
        ran.append((char) number);
    }

    private interface Lies {
        int number();

        default int lies(int x) { runs(1); return x + number(); }
    }

    private interface Tells {
        int hears(int x);

        int waits(int x);

        default int tells(int x) { runs(2); return hears(x) - waits(1); }
    }

    private static class Beep implements Lies, Tells {
        int number;

        public int number() { return number; }

        public int hears(int x) { runs(10); return lies(x) * 2; }

        public int waits(int x) { runs(11); return x ^ number; }

        public int lies(int x) { return Lies.super.lies(x); }

        public int tells(int x) { return Tells.super.tells(x); }
    }

    private static class Look extends Beep {
        public int lies(int x) { runs(20); return super.lies(x) + 3; }
    }

    private static class Heard extends Beep {
        public int hears(int x) { runs(30); return -super.hears(x); }
    }

    private static class Silent extends Heard {
        public int waits(int x) { runs(40); return super.waits(x) * 3; }

        public int hears(int x) { runs(41); return super.hears(x + 1); }
    }

    private static class Muffled extends Look {
        public int tells(int x) { runs(50); return super.tells(x) ^ 5; }
    }

    private static class Late extends Silent {
        public int waits(int x) { runs(60); return super.waits(x) - lies(2); }

        public int tells(int x) { runs(61); return super.tells(x) + 1; }
    }

    private static class Trodden extends Beep {
        public int lies(int x) { runs(70); return super.lies(x) * 2; }
    }

    private static class Strange extends Trodden {
        public int hears(int x) { runs(80); return super.hears(x) + waits(2); }

        public int lies(int x) { runs(81); return super.lies(x) - 1; }
    }

    private static Beep made(int kind, int number) {
        Beep[] one = {new Beep(), new Look(), new Heard(), new Silent(), new Muffled(), new Late(), new Trodden(), new Strange()};
        one[kind].number = number;
        return one[kind];
    }

    private static int asJava(Beep beep, int act, int x) {
        ran.setLength(0);
        switch (act) {
            case 0: return beep.lies(x);
            case 1: return beep.hears(x);
            case 2: return beep.waits(x);
            default: return beep.tells(x);
        }
    }

    private static void actsAgainstJava() {
        OneEarOfTwo ear = withBodies();
        for (int i = 8; i < 50; i++) ear.body(i * 5 % 8);
        int[] xs = {0, 1, -1, 5, 1000, Integer.MAX_VALUE, Integer.MIN_VALUE, 0x55555555};
        for (int b = 0; b < 50; b++) {
            Beep beep = made(b < 8 ? b : b * 5 % 8, b);
            for (int act = 0; act < 4; act++) {
                for (int x : xs) {
                    String call = "act(" + b + ", " + act + ", " + x + ")";
                    Checks.due("34 " + call, ear.act(b, act, x), asJava(beep, act, x));
                    Checks.due("42 ran " + call, ear.count(4), ran.length());
                    for (int i = 0; i < ran.length(); i++) Checks.due("35 " + i + " " + call, ear.trace(i), ran.charAt(i));
                    Checks.due("35 behind " + call, ear.trace(ran.length()), -1);
                }
            }
        }
    }

    private static void traces() {
        OneEarOfTwo ear = withBodies();
        Checks.due("35 none yet", ear.trace(0), -1);
        Checks.due("34 late tells", ear.act(5, 3, 5), -26);
        int[] want = {61, 2, 41, 30, 10, 1, 60, 40, 11, 1};
        for (int i = 0; i < want.length; i++) Checks.due("35 late tells", ear.trace(i), want[i]);
        Checks.due("35 behind", ear.trace(10), -1);
        Checks.due("35 ahead", ear.trace(-1), -1);
        Checks.due("35 far", ear.trace(24), -1);
        Checks.due("42 ran", ear.count(4), 10);
        Checks.due("34 no such body", ear.act(8, 0, 5), 0);
        Checks.due("35 no trace then", ear.trace(0), -1);
        Checks.due("42 no trace then", ear.count(4), 0);
        ear.act(0, 0, 5);
        Checks.due("42 one ran", ear.count(4), 1);
        Checks.due("34 no such act", ear.act(0, 4, 5), 0);
        Checks.due("42 no trace then", ear.count(4), 0);
        ear.act(0, 0, 5);
        Checks.due("34 no such act", ear.act(0, -1, 5), 0);
        Checks.due("35 no trace then", ear.trace(0), -1);
        ear.act(0, 0, 5);
        Checks.due("34 no such body", ear.act(-1, 0, 5), 0);
        Checks.due("35 no trace then", ear.trace(0), -1);
        Checks.due("34 wraps", ear.act(1, 0, Integer.MAX_VALUE), Integer.MIN_VALUE + 3);
    }

    private static void keep() {
        OneEarOfTwo ear = withBodies();
        Checks.due("36 shelf", ear.keep(-1, 0), -1);
        Checks.due("36 shelf", ear.keep(6, 0), -1);
        Checks.due("36 body", ear.keep(0, -2), -1);
        Checks.due("36 body", ear.keep(0, 8), -1);
        Checks.due("36 keeps", ear.keep(5, 7), 1);
        Checks.due("36 held", ear.taken(5, 0), 7);
        Checks.due("36 nothing", ear.keep(5, -1), 1);
        Checks.due("36 nothing", ear.taken(5, 0), -11);
        ear.row(5, 2, 4);
        Checks.due("36 over a row", ear.keep(5, 1), 1);
        Checks.due("36 over a row", ear.put(5, 0, 1), -12);
        ear.row(5, 2, 4);
        ear.keep(5, -1);
        Checks.due("36 nothing", ear.element(5, 0), Long.MIN_VALUE);
        Checks.due("36 nothing", ear.put(5, 0, 1), -11);
    }

    private static void row() {
        OneEarOfTwo ear = withBodies();
        Checks.due("37 shelf", ear.row(-1, 0, 1), -1);
        Checks.due("37 shelf", ear.row(6, 0, 1), -1);
        Checks.due("37 sort", ear.row(0, -1, 1), -1);
        Checks.due("37 sort", ear.row(0, 5, 1), -1);
        Checks.due("37 n above", ear.row(0, 0, 61), -1);
        Checks.due("37 n below", ear.row(0, 0, -1), -14);
        Checks.due("37 bad ahead of -14", ear.row(0, 5, -1), -1);
        Checks.due("37 changes nothing", ear.put(0, 0, 1), -11);
        for (int sort = 0; sort < 5; sort++) {
            Checks.due("37 row", ear.row(0, sort, 60), 1);
            for (int i = 0; i < 60; i++) {
                Checks.due("37 0 at first", ear.element(0, i), 0);
                ear.put(0, i, 1);
            }
            Checks.due("37 over a row", ear.row(0, sort, 60), 1);
            Checks.due("37 0 at first", ear.element(0, 59), 0);
        }
        Checks.due("37 empty", ear.row(0, 3, 0), 1);
        Checks.due("37 empty", ear.put(0, 0, 1), -13);
        ear.keep(0, 1);
        Checks.due("37 over a body", ear.row(0, 3, 1), 1);
        Checks.due("37 over a body", ear.taken(0, 0), -12);
    }

    private static void put() {
        OneEarOfTwo ear = withBodies();
        Checks.due("38 shelf", ear.put(-1, 0, 1), -1);
        Checks.due("38 shelf", ear.put(6, 0, 1), -1);
        Checks.due("38 nothing", ear.put(0, -1, 1), -11);
        ear.keep(0, 0);
        Checks.due("38 a body", ear.put(0, -1, 1), -12);
        ear.row(0, 2, 3);
        Checks.due("38 below", ear.put(0, -1, 1), -13);
        Checks.due("38 above", ear.put(0, 3, 1), -13);
        Checks.due("38 far", ear.put(0, Integer.MAX_VALUE, 1), -13);
        Checks.due("38 put", ear.put(0, 2, -7), 1);
        Checks.due("38 is", ear.element(0, 2), -7);
        Checks.due("38 others", ear.element(0, 1), 0);
        long[] vs = {0, 1, -1, 127, 128, 255, 256, -129, 32767, 32768, 65536, 1L << 31, 1L << 32, (1L << 33) + 5,
            Long.MAX_VALUE, Long.MIN_VALUE, Long.MIN_VALUE + 1};
        for (int sort = 0; sort < 5; sort++) {
            ear.row(1, sort, 60);
            for (long v : vs) {
                ear.put(1, 59, v);
                long want = v;
                if (sort == 0) want = (byte) v;
                if (sort == 1) want = (short) v;
                if (sort == 2) want = (int) v;
                if (sort == 4) want = v == 0 ? 0 : 1;
                Checks.due("38 sort " + sort + " of " + v, ear.element(1, 59), want);
            }
        }
    }

    private static void element() {
        OneEarOfTwo ear = withBodies();
        long none = Long.MIN_VALUE;
        Checks.due("39 shelf", ear.element(-1, 0), none);
        Checks.due("39 shelf", ear.element(6, 0), none);
        Checks.due("39 nothing", ear.element(0, 0), none);
        ear.keep(0, 0);
        Checks.due("39 a body", ear.element(0, 0), none);
        ear.row(0, 4, 2);
        ear.put(0, 1, 9);
        Checks.due("39 0", ear.element(0, 0), 0);
        Checks.due("39 1", ear.element(0, 1), 1);
        Checks.due("39 below", ear.element(0, -1), none);
        Checks.due("39 above", ear.element(0, 2), none);
    }

    private static String cells(OneEarOfTwo ear, int shelf, int n) {
        StringBuilder text = new StringBuilder();
        for (int i = 0; i < n; i++) text.append(ear.element(shelf, i)).append(' ');
        return text.toString();
    }

    private static void same(String call, String got, String want) {
        Checks.due(call + ": " + got + "is not " + want, got.equals(want) ? 1 : 0, 1);
    }

    private static void shift() {
        OneEarOfTwo ear = withBodies();
        for (int sort = 0; sort < 4; sort++) {
            ear.row(0, sort, 6);
            ear.row(1, sort, 4);
            for (int i = 0; i < 6; i++) ear.put(0, i, i + 1);
            Checks.due("40 n", ear.shift(0, 2, 1, 1, 3), 3);
            same("40 another", cells(ear, 1, 4), "0 3 4 5 ");
            Checks.due("40 n", ear.shift(0, 0, 0, 2, 4), 4);
            same("40 up in itself", cells(ear, 0, 6), "1 2 1 2 3 4 ");
            Checks.due("40 n", ear.shift(0, 1, 0, 0, 5), 5);
            same("40 down in itself", cells(ear, 0, 6), "2 1 2 3 4 4 ");
            Checks.due("40 none", ear.shift(0, 6, 1, 4, 0), 0);
            Checks.due("40 all", ear.shift(1, 0, 0, 0, 4), 4);
            same("40 all", cells(ear, 0, 6), "0 3 4 5 4 4 ");
        }
    }

    private static void shiftRefusals() {
        OneEarOfTwo ear = withBodies();
        ear.row(0, 2, 6);
        ear.row(1, 2, 4);
        ear.row(2, 3, 4);
        ear.keep(3, 0);
        Checks.due("40 shelf", ear.shift(-1, 0, 0, 0, 0), -1);
        Checks.due("40 shelf", ear.shift(6, 0, 0, 0, 0), -1);
        Checks.due("40 other", ear.shift(0, 0, 6, 0, 0), -1);
        Checks.due("40 other", ear.shift(4, 0, -1, 0, 0), -1);
        Checks.due("40 nothing", ear.shift(4, 0, 0, 0, 0), -11);
        Checks.due("40 nothing, the other", ear.shift(0, 0, 4, 0, 0), -11);
        Checks.due("40 nothing ahead of -12", ear.shift(3, 0, 4, 0, 0), -11);
        Checks.due("40 body", ear.shift(3, 0, 0, 0, 0), -12);
        Checks.due("40 body, the other", ear.shift(0, 0, 3, 0, 0), -12);
        Checks.due("40 bodies", ear.shift(3, 0, 3, 0, 0), -12);
        Checks.due("40 unlike sorts", ear.shift(0, 0, 2, 0, 0), -12);
        Checks.due("40 unlike sorts ahead of -13", ear.shift(0, 9, 2, 0, -1), -12);
        Checks.due("40 n below", ear.shift(0, 0, 1, 0, -1), -13);
        Checks.due("40 n far below", ear.shift(0, 0, 1, 0, Integer.MIN_VALUE), -13);
        Checks.due("40 i below", ear.shift(0, -1, 1, 0, 1), -13);
        Checks.due("40 j below", ear.shift(0, 0, 1, -1, 1), -13);
        Checks.due("40 i above", ear.shift(0, 6, 1, 0, 1), -13);
        Checks.due("40 j above", ear.shift(0, 0, 1, 4, 1), -13);
        Checks.due("40 n above", ear.shift(0, 0, 1, 0, 5), -13);
        Checks.due("40 n above", ear.shift(1, 1, 0, 0, 4), -13);
        Checks.due("40 no such place, though n 0", ear.shift(0, 7, 1, 0, 0), -13);
        Checks.due("40 far", ear.shift(0, Integer.MAX_VALUE, 1, 0, Integer.MAX_VALUE), -13);
        Checks.due("40 far", ear.shift(0, 1, 1, 1, Integer.MAX_VALUE), -13);
        Checks.due("40 the end", ear.shift(0, 2, 1, 0, 4), 4);
    }

    private static void taken() {
        OneEarOfTwo ear = withBodies();
        // by KIND: the KINDS for which it may be taken, as bits
        int[] under = {1, 3, 5, 13, 19, 45, 65, 193};
        for (int kind = 0; kind < 8; kind++) {
            ear.keep(0, kind);
            for (int k = 0; k < 8; k++) {
                Checks.due("41 " + kind + " for " + k, ear.taken(0, k), (under[kind] >> k & 1) == 1 ? kind : -12);
            }
        }
        Checks.due("41 k", ear.taken(0, -1), -1);
        Checks.due("41 k", ear.taken(0, 8), -1);
        Checks.due("41 shelf", ear.taken(-1, 0), -1);
        Checks.due("41 shelf", ear.taken(6, 0), -1);
        Checks.due("41 nothing", ear.taken(1, 0), -11);
        Checks.due("41 bad ahead of -11", ear.taken(1, 8), -1);
        ear.row(1, 0, 3);
        Checks.due("41 a row", ear.taken(1, 0), -12);
        ear.body(6);
        ear.keep(2, 8);
        Checks.due("41 its kind, not its number", ear.taken(2, 0), 6);
    }

    private static void count() {
        OneEarOfTwo ear = Checks.withPlaces(0, 1, 1, 1);
        ear.feed('h');
        ear.feed('+');
        ear.feed('1');
        ear.mend(0, 5, 3);
        ear.mend(0, 5, 4);
        ear.mend(0, 5, 5);
        ear.mend(0, 5, 6);
        ear.undo();
        ear.body(1);
        ear.act(0, 1, 5);
        Checks.due("42 places", ear.count(0), 2);
        Checks.due("42 bytes", ear.count(1), 3);
        Checks.due("42 changes", ear.count(2), 3);
        Checks.due("42 bodies", ear.count(3), 1);
        Checks.due("42 ran", ear.count(4), 3);
        Checks.due("42 what", ear.count(5), -1);
        Checks.due("42 what", ear.count(-1), -1);
    }

    private static void constants() {
        Checks.due("BAD", OneEarOfTwo.BAD, -1);
        Checks.due("NOT", OneEarOfTwo.NOT, -2);
        Checks.due("FULL", OneEarOfTwo.FULL, -3);
        Checks.due("STATE", OneEarOfTwo.STATE, -5);
        Checks.due("VOID", OneEarOfTwo.VOID, -2000000000);
    }
}
