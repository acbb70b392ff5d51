import java.util.Random;

/** Any arguments in any state: no call throws, none runs on, and the same calls give the same answers. */
public final class WildTest {
    private static final int[] FAR = {0, 1, 2, 3, 7, 8, 12, 59, 60, 99, 100, 120, 255, 256, 999, 1000, 9999, 10000, 999999,
        1000000, -1, -2, -128, Integer.MAX_VALUE, Integer.MIN_VALUE, Integer.MAX_VALUE - 1, Integer.MIN_VALUE + 1};

    public static void main(String[] args) {
        for (int run = 0; run < 400; run++) {
            long first = runOnce(run), second = runOnce(run);
            Checks.due("run " + run + " again", second, first);
        }
        dearest();
        Checks.end("WildTest");
    }

    private static int any(Random random) {
        int kind = random.nextInt(10);
        if (kind < 6) return random.nextInt(9) - 1;
        return kind < 9 ? FAR[random.nextInt(FAR.length)] : random.nextInt();
    }

    private static long runOnce(int seed) {
        Random random = new Random(seed);
        OneEarOfTwo ear = new OneEarOfTwo();
        for (int p = 0; p < seed % 9; p++) ear.place(random.nextInt(10000), random.nextInt(100));
        if (seed % 3 == 0) Checks.tell(ear, "k%3?h-d/2+c%5;m&!p?-3*-k;(p+1)*2");
        for (int shelf = 0; shelf < seed % 4; shelf++) {
            ear.row(shelf, 0, 60);
            for (int i = 0; i < 20; i++) ear.put(shelf, i, i % 2 == 0 ? random.nextInt(8) : 1 + random.nextInt(99));
        }
        long all = 0;
        for (int call = 0; call < 400; call++) {
            try {
                all = all * 31 + ask(ear, random.nextInt(41), random);
            } catch (RuntimeException | StackOverflowError e) {
                Checks.fault("run " + seed + ", call " + call + " threw " + e);
            }
        }
        return all;
    }

    private static long ask(OneEarOfTwo ear, int call, Random random) {
        int a = any(random), b = any(random), c = any(random), d = any(random), e = any(random);
        switch (call) {
            case 0: return ear.place(a, b);
            case 1: return ear.places(a, b, c);
            case 2: return ear.mend(a, b, c);
            case 3: return ear.of(a, b);
            case 4: return ear.feed(a);
            case 5: return ear.law();
            case 6: return ear.hears(a, b);
            case 7: return ear.round(a, b);
            case 8: return ear.ifNot(a, b);
            case 9: return ear.by(a, b);
            case 10: return ear.next(a, b, c);
            case 11: return ear.stay(a, b);
            case 12: return ear.best(a, b, c);
            case 13: return ear.giveUp(a, b, c);
            case 14: return ear.seen(a, b);
            case 15: return ear.dead(a);
            case 16: return ear.buy(a, b);
            case 17: return ear.waits(a);
            case 18: return ear.strangers(a, b);
            case 19: return ear.worn(a);
            case 20: return ear.grass(a, b);
            case 21: return ear.drawn(a, b, c, d);
            case 22: return ear.go(a);
            case 23: return ear.listen(a);
            case 24: return ear.find(a);
            case 25: return ear.again();
            case 26: return ear.led(a);
            case 27: return ear.image();
            case 28: return ear.back();
            case 29: return ear.undo();
            case 30: return ear.redo();
            case 31: return ear.body(a);
            case 32: return ear.act(a, b, c);
            case 33: return ear.trace(a);
            case 34: return ear.keep(a, b);
            case 35: return ear.row(a, b, c);
            case 36: return ear.put(a, b, c * 4294967311L + d);
            case 37: return ear.element(a, b);
            case 38: return ear.shift(a, b, c, d, e);
            case 39: return ear.taken(a, b);
            default: return ear.count(a);
        }
    }

    /** The dearest call many times by the longest law: it must come to an end in good time. */
    private static void dearest() {
        OneEarOfTwo ear = Checks.withPlaces(0, 9, 1, 9, 2, 9, 3, 9, 4, 9, 5, 9);
        Checks.tell(ear, "1+0".repeat(1) + "+0*h".repeat(29));
        int found = ear.best(63, 99, -1);
        for (int i = 0; i < 20; i++) Checks.due("14 dear", ear.best(63, 99, -1), found);
    }
}
