/** Promises 27 to 32: TRENCHES, THE HEAP, GAPS, SHAKE and WORST. */
public final class TrenchesTest {
    private static final int UNKNOWN = -101, OUTSIDE = -102, FULL = -104;
    private static final Checks c = new Checks("TrenchesTest");

    public static void main(String[] args) {
        trench();
        heap();
        fits();
        gaps();
        shake();
        shakeRefusals();
        worst();
        c.end();
    }

    private static void trench() {
        RammedCobbles x = new RammedCobbles();
        int[] dips = {0, 13, 23, 30, 35, 39, 42, 44, 46, 47, 48, 49, 50, 50};
        for (int years = 0; years < dips.length; years++) {
            int at = years;
            c.looks(x, "trench(10, 0, " + years + ")", () -> x.trench(10, 0, at), dips[years]);
        }
        c.looks(x, "trench(99, 9, 99)", () -> x.trench(99, 9, 99), 90);
        c.looks(x, "trench(1, 9, 99): nothing", () -> x.trench(1, 9, 99), 0);
        c.looks(x, "trench(1, 8, 1)", () -> x.trench(1, 8, 1), 1);
        c.looks(x, "trench(3, 2, 2): 7 in all", () -> x.trench(3, 2, 2), 4);
        for (int[] wrong : new int[][] {{0, 0, 0}, {100, 0, 0}, {1, -1, 0}, {1, 10, 0}, {1, 0, -1}, {1, 0, 100}}) {
            c.refuses(x, "trench outside", () -> x.trench(wrong[0], wrong[1], wrong[2]), OUTSIDE);
        }
    }

    private static void heap() {
        RammedCobbles x = new RammedCobbles();
        c.refuses(x, "heap(0)", () -> x.heap(0), OUTSIDE);
        c.refuses(x, "heap(10)", () -> x.heap(10), OUTSIDE);
        for (int i = 0; i < 10; i++) {
            c.due("heap, stone " + i, x.heap(i % 9 + 1), i + 1);
        }
        c.due("stones of the heap", x.count(3), 10);
        c.refuses(x, "heap of eleven", () -> x.heap(1), FULL);
        c.refuses(x, "heap of eleven: OUTSIDE first", () -> x.heap(10), OUTSIDE);
        c.due("digest of a heap", x.digest(),
                Checks.digestOf(1, 2, 3, 4, 5, 6, 7, 8, 9, 1, 0, 0, 0, 10, 0, 1, 0, 0));
    }

    private static void fitsBoth(RammedCobbles x, int hole, int bits, int width) {
        c.looks(x, "fits(" + hole + ", 0)", () -> x.fits(hole, 0), bits);
        c.looks(x, "fits(" + hole + ", 1)", () -> x.fits(hole, 1), width);
    }

    private static void fits() {
        RammedCobbles x = new RammedCobbles();
        fitsBoth(x, 90, 0, 0);
        x.heap(4);
        fitsBoth(x, 3, 0, 0);
        fitsBoth(x, 4, 1, 4);
        x.heap(2);
        x.heap(3);
        x.heap(1);
        x.heap(4);
        fitsBoth(x, 0, 0, 0);
        fitsBoth(x, 1, 8, 1);
        fitsBoth(x, 3, 4, 3);
        fitsBoth(x, 4, 1, 4);
        fitsBoth(x, 5, 6, 5);
        fitsBoth(x, 6, 3, 6);
        fitsBoth(x, 8, 17, 8);
        fitsBoth(x, 13, 23, 13);
        fitsBoth(x, 14, 31, 14);
        fitsBoth(x, 90, 31, 14);
        c.refuses(x, "fits(-1, 0)", () -> x.fits(-1, 0), OUTSIDE);
        c.refuses(x, "fits(91, 0)", () -> x.fits(91, 0), OUTSIDE);
        c.refuses(x, "fits(1, -1)", () -> x.fits(1, -1), OUTSIDE);
        c.refuses(x, "fits(1, 2)", () -> x.fits(1, 2), OUTSIDE);
        RammedCobbles y = new RammedCobbles();
        for (int i = 0; i < 10; i++) {
            y.heap(9);
        }
        fitsBoth(y, 90, 1023, 90);
        fitsBoth(y, 89, 511, 81);
        fitsBoth(y, 8, 0, 0);
    }

    private static void gaps() {
        RammedCobbles x = new RammedCobbles();
        c.looks(x, "gaps(10, 10, 100): 10 in 11", () -> x.gaps(10, 10, 100), 1);
        c.looks(x, "gaps(10, 11, 100): 11 in 11", () -> x.gaps(10, 11, 100), 1);
        c.looks(x, "gaps(10, 12, 100): 12 in 11", () -> x.gaps(10, 12, 100), 2);
        c.looks(x, "gaps(1, 1, 0)", () -> x.gaps(1, 1, 0), 0);
        c.looks(x, "gaps(1, 1, 1)", () -> x.gaps(1, 1, 1), 1);
        c.looks(x, "gaps(1, 50, 40): 2 in 2", () -> x.gaps(1, 50, 40), 1);
        c.looks(x, "gaps(1, 50, 41): 2.05 in 2", () -> x.gaps(1, 50, 41), 2);
        c.looks(x, "gaps(99, 99, 200): 1960.2 in 100", () -> x.gaps(99, 99, 200), 20);
        c.looks(x, "gaps(1, 99, 200): 19.8 in 2", () -> x.gaps(1, 99, 200), 10);
        for (int[] wrong : new int[][] {{0, 1, 1}, {100, 1, 1}, {1, 0, 1}, {1, 100, 1}, {1, 1, -1}, {1, 1, 201}}) {
            c.refuses(x, "gaps outside", () -> x.gaps(wrong[0], wrong[1], wrong[2]), OUTSIDE);
        }
    }

    private static void shakes(RammedCobbles x, int row, int speed, int above, int below) {
        c.looks(x, "shake(" + row + ", " + speed + ", 0)", () -> x.shake(row, speed, 0), above);
        c.looks(x, "shake(" + row + ", " + speed + ", 1)", () -> x.shake(row, speed, 1), below);
    }

    private static void shake() {
        RammedCobbles x = Checks.streetOf("s1.s1.s1./....../s1s1s1s1s1.");
        shakes(x, 0, 1, 5, 1);
        shakes(x, 0, 2, 0, 1);
        shakes(x, 0, 3, 5, 1);
        shakes(x, 0, 4, 0, 1);
        shakes(x, 0, 5, 5, 1);
        shakes(x, 1, 1, 0, 1);
        shakes(x, 2, 1, 1, 1);
        shakes(x, 2, 2, 0, 1);
        RammedCobbles y = Checks.streetOf("s1.s1s1s1/s1s1s1../.s1s1.s1");
        shakes(y, 0, 1, 5, 2);
        shakes(y, 1, 1, 5, 4);
        shakes(y, 1, 2, 5, 2);
        shakes(y, 1, 3, 5, 1);
        shakes(y, 1, 4, 5, 1);
        shakes(y, 1, 5, 0, 1);
        shakes(y, 2, 1, 15, 4);
        RammedCobbles z = Checks.streetOf("s1./.s1");
        shakes(z, 0, 1, 5, 1);
        shakes(z, 0, 2, 0, 1);
        shakes(z, 1, 1, 5, 1);
    }

    private static void shakeRefusals() {
        RammedCobbles x = Checks.streetOf("s1./.s1");
        c.refuses(x, "shake(2, 1, 0)", () -> x.shake(2, 1, 0), UNKNOWN);
        c.refuses(x, "shake(-1, 1, 0)", () -> x.shake(-1, 1, 0), UNKNOWN);
        c.refuses(x, "shake(2, 0, 0): UNKNOWN first", () -> x.shake(2, 0, 0), UNKNOWN);
        c.refuses(x, "shake(0, 0, 0)", () -> x.shake(0, 0, 0), OUTSIDE);
        c.refuses(x, "shake(0, 6, 0)", () -> x.shake(0, 6, 0), OUTSIDE);
        c.refuses(x, "shake(0, 1, -1)", () -> x.shake(0, 1, -1), OUTSIDE);
        c.refuses(x, "shake(0, 1, 2)", () -> x.shake(0, 1, 2), OUTSIDE);
        RammedCobbles none = new RammedCobbles();
        c.refuses(none, "shake(0, 0, 0) without a street", () -> none.shake(0, 0, 0), UNKNOWN);
        c.refuses(none, "worst(0) without a street", () -> none.worst(0), UNKNOWN);
    }

    private static void worst() {
        RammedCobbles x = Checks.streetOf("s1.s1.s1./....../s1s1s1s1s1./s1s1.s1s1s1");
        c.looks(x, "worst(0): of like ones the least", () -> x.worst(0), 1);
        c.looks(x, "worst(1): nothing shakes", () -> x.worst(1), 1);
        c.looks(x, "worst(2)", () -> x.worst(2), 5);
        c.looks(x, "worst(3): 10 by 5, 10 by 2", () -> x.worst(3), 2);
        c.refuses(x, "worst(4)", () -> x.worst(4), UNKNOWN);
        c.refuses(x, "worst(-1)", () -> x.worst(-1), UNKNOWN);
        RammedCobbles y = Checks.streetOf("s1s1./s1.s1");
        c.looks(y, "worst: 5 by 2, 5 by 1", () -> y.worst(0), 2);
        c.looks(y, "worst: 10 by 2, 0 by 1", () -> y.worst(1), 1);
        RammedCobbles z = Checks.streetOf("s1s1/s1.");
        c.looks(z, "worst: one step at least", () -> z.worst(0), 1);
    }
}
