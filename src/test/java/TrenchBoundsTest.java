/** The bounds that the document names for TRENCHES, THE HEAP, GAPS and speeds (promises 27 to 32). */
public final class TrenchBoundsTest {
    private static final int UNKNOWN = -101, OUTSIDE = -102, FULL = -104;
    private static final int LEAST = Integer.MIN_VALUE, GREATEST = Integer.MAX_VALUE;
    private static final Checks c = new Checks("TrenchBoundsTest");

    public static void main(String[] args) {
        trenchLeastAndMost();
        trenchYearByYear();
        trenchRefused();
        sizesInTheHeap();
        heapOfTen();
        fitsOfNoHeap();
        fitsOfNoHoleAndMost();
        fitsOfLikeOnes();
        fitsRefused();
        gapsLeastAndMost();
        gapsJustEnough();
        gapsRefused();
        speedsOfEachWidth();
        shakeInLowestTerms();
        shakeOfNothing();
        worstOfRows();
        worstOfLikeOnes();
        worstByPartsOfOne();
        c.end();
    }

    // ---- promise 27

    /** "so deep (1 to 99), by so many BEATS (0 to 9)", "so many years (0 to 99)". */
    private static void trenchLeastAndMost() {
        RammedCobbles x = new RammedCobbles();
        int[][] due = {
            {1, 0, 0, 0}, {1, 0, 1, 2}, {1, 0, 99, 5}, {1, 9, 0, 0}, {1, 9, 99, 0}, {1, 8, 1, 1}, {1, 8, 99, 1},
            {99, 0, 0, 0}, {99, 0, 1, 124}, {99, 0, 99, 495}, {99, 9, 0, 0}, {99, 9, 1, 23}, {99, 9, 99, 90},
            {98, 9, 99, 89}, {2, 9, 99, 1}, {98, 0, 99, 490}};
        for (int[] d : due) {
            c.looks(x, "trench(" + d[0] + ", " + d[1] + ", " + d[2] + ")", () -> x.trench(d[0], d[1], d[2]), d[3]);
        }
    }

    /** "each year it dips by what it has not dipped yet .. by 4, rounded up": of 5, of 7 (30 by 4), of 90. */
    private static void trenchYearByYear() {
        RammedCobbles x = new RammedCobbles();
        int[] ofFive = {0, 2, 3, 4, 5, 5, 5};
        int[] ofSeven = {0, 2, 4, 5, 6, 7, 7};
        int[] ofNinety = {0, 23, 40, 53, 63, 70, 75, 79, 82, 84, 86, 87, 88, 89, 90, 90};
        for (int years = 0; years < ofFive.length; years++) {
            c.due("trench(1, 0, " + years + ")", x.trench(1, 0, years), ofFive[years]);
            c.due("trench(3, 2, " + years + ")", x.trench(3, 2, years), ofSeven[years]);
        }
        for (int years = 0; years < ofNinety.length; years++) {
            c.due("trench(99, 9, " + years + ")", x.trench(99, 9, years), ofNinety[years]);
        }
    }

    private static void trenchRefused() {
        RammedCobbles x = new RammedCobbles();
        for (int depth : new int[] {LEAST, -1, 0, 100, GREATEST}) {
            c.refuses(x, "trench(" + depth + ", 0, 0)", () -> x.trench(depth, 0, 0), OUTSIDE);
        }
        for (int beats : new int[] {LEAST, -2, -1, 10, GREATEST}) {
            c.refuses(x, "trench(1, " + beats + ", 0)", () -> x.trench(1, beats, 0), OUTSIDE);
            c.refuses(x, "trench(99, " + beats + ", 99)", () -> x.trench(99, beats, 99), OUTSIDE);
        }
        for (int years : new int[] {LEAST, -1, 100, GREATEST}) {
            c.refuses(x, "trench(1, 0, " + years + ")", () -> x.trench(1, 0, years), OUTSIDE);
        }
    }

    // ---- promise 28

    /** "A stone of a SIZE (1 to 9)". */
    private static void sizesInTheHeap() {
        RammedCobbles x = new RammedCobbles();
        for (int size = 1; size <= 9; size++) {
            c.due("heap(" + size + ")", x.heap(size), size);
            c.due("stones of the heap", x.count(3), size);
        }
        c.due("their sizes", x.digest(), Checks.digestOf(1, 2, 3, 4, 5, 6, 7, 8, 9, 0, 0, 0, 9, 0, 1, 0, 0));
        for (int size : new int[] {LEAST, -1, 0, 10, GREATEST}) {
            c.refuses(x, "heap(" + size + ")", () -> x.heap(size), OUTSIDE);
        }
    }

    /** "A HEAP of stones (10 at most)"; "OUTSIDE; FULL". */
    private static void heapOfTen() {
        RammedCobbles x = new RammedCobbles();
        for (int i = 1; i <= 10; i++) {
            c.due("stone " + i, x.heap(9), i);
        }
        for (int size = 1; size <= 9; size++) {
            int at = size;
            c.refuses(x, "heap(" + size + ") of ten", () -> x.heap(at), FULL);
        }
        for (int size : new int[] {LEAST, -1, 0, 10, GREATEST}) {
            c.refuses(x, "heap(" + size + ") of ten: OUTSIDE is told ahead", () -> x.heap(size), OUTSIDE);
        }
        c.due("ten stay", x.count(3), 10);
        Checks.write(x, "../..");
        x.street();
        c.due("a street leaves the heap", x.count(3), 10);
    }

    // ---- promise 29

    private static void fits(RammedCobbles x, int hole, int bits, int width) {
        c.looks(x, "fits(" + hole + ", 0)", () -> x.fits(hole, 0), bits);
        c.looks(x, "fits(" + hole + ", 1)", () -> x.fits(hole, 1), width);
    }

    private static RammedCobbles heapOf(int... sizes) {
        RammedCobbles x = new RammedCobbles();
        for (int size : sizes) {
            x.heap(size);
        }
        return x;
    }

    private static void fitsOfNoHeap() {
        RammedCobbles x = new RammedCobbles();
        fits(x, 0, 0, 0);
        fits(x, 90, 0, 0);
    }

    /** "no wider than a hole (0 to 90)": as wide fits, wider by 1 does not. */
    private static void fitsOfNoHoleAndMost() {
        RammedCobbles one = heapOf(5);
        fits(one, 0, 0, 0);
        fits(one, 4, 0, 0);
        fits(one, 5, 1, 5);
        fits(one, 6, 1, 5);
        fits(one, 90, 1, 5);
        RammedCobbles full = heapOf(9, 9, 9, 9, 9, 9, 9, 9, 9, 9);
        fits(full, 0, 0, 0);
        fits(full, 8, 0, 0);
        fits(full, 9, 1, 9);
        fits(full, 81, 511, 81);
        fits(full, 89, 511, 81);
        fits(full, 90, 1023, 90);
        fits(full, 1, 0, 0);
        fits(full, 0, 0, 0);
        RammedCobbles last = heapOf(2, 2, 2, 2, 2, 2, 2, 2, 2, 1);
        fits(last, 1, 512, 1);
        fits(last, 18, 511, 18);
        fits(last, 19, 1023, 19);
        fits(last, 17, 512 + 255, 17);
    }

    /** "and greatest, of like ones of fewest stones, then of least bits". */
    private static void fitsOfLikeOnes() {
        fits(heapOf(1, 2, 3), 3, 4, 3);
        fits(heapOf(3, 1, 2), 3, 1, 3);
        fits(heapOf(4, 4, 4), 4, 1, 4);
        fits(heapOf(4, 4, 4), 8, 3, 8);
        fits(heapOf(1, 5, 4, 2, 3), 5, 2, 5);
        fits(heapOf(1, 4, 2, 3), 5, 3, 5);
        fits(heapOf(3, 2, 4, 1), 5, 3, 5);
        fits(heapOf(1, 1, 1, 3, 9), 3, 8, 3);
        fits(heapOf(1, 1, 1, 9, 2), 3, 17, 3);
        fits(heapOf(8, 5, 4), 9, 6, 9);
        fits(heapOf(5, 4, 9), 9, 4, 9);
    }

    private static void fitsRefused() {
        RammedCobbles x = heapOf(1, 2);
        for (int hole : new int[] {LEAST, -1, 91, GREATEST}) {
            c.refuses(x, "fits(" + hole + ", 0)", () -> x.fits(hole, 0), OUTSIDE);
            c.refuses(x, "fits(" + hole + ", 1)", () -> x.fits(hole, 1), OUTSIDE);
        }
        for (int what : new int[] {LEAST, -1, 2, GREATEST}) {
            c.refuses(x, "fits(0, " + what + ")", () -> x.fits(0, what), OUTSIDE);
            c.refuses(x, "fits(90, " + what + ")", () -> x.fits(90, what), OUTSIDE);
        }
    }

    // ---- promise 30

    /** "n (1 to 99), size (1 to 99), swell (0 to 200)". */
    private static void gapsLeastAndMost() {
        RammedCobbles x = new RammedCobbles();
        int[][] due = {
            {1, 1, 0, 0}, {99, 99, 0, 0}, {1, 1, 1, 1}, {1, 1, 200, 1}, {1, 99, 200, 10}, {99, 1, 1, 1},
            {99, 1, 200, 1}, {99, 99, 1, 1}, {99, 99, 200, 20}, {1, 99, 1, 1}, {98, 99, 199, 20}, {99, 98, 200, 20}};
        for (int[] d : due) {
            c.looks(x, "gaps(" + d[0] + ", " + d[1] + ", " + d[2] + ")", () -> x.gaps(d[0], d[1], d[2]), d[3]);
        }
    }

    /** "the least whole GAP .. (n and 1 of them) .. together at least n times SIZE times SWELL by 1000 (rounded up)". */
    private static void gapsJustEnough() {
        RammedCobbles x = new RammedCobbles();
        c.due("4 whole in 5", x.gaps(4, 10, 100), 1);
        c.due("5 whole in 5", x.gaps(4, 10, 125), 1);
        c.due("5.04 are 6 in 5", x.gaps(4, 10, 126), 2);
        c.due("10 whole in 10", x.gaps(9, 20, 55), 1);
        c.due("9.9 are 10 in 10", x.gaps(9, 11, 100), 1);
        c.due("10.8 are 11 in 10", x.gaps(9, 12, 100), 2);
        c.due("20 whole in 9", x.gaps(8, 25, 100), 3);
        c.due("19.98 are 20 in 10", x.gaps(9, 20, 111), 2);
        c.due("20.16 are 21 in 10", x.gaps(9, 20, 112), 3);
        for (int n : new int[] {1, 2, 50, 98, 99}) {
            for (int size : new int[] {1, 50, 99}) {
                for (int swell : new int[] {0, 1, 99, 100, 199, 200}) {
                    int gap = x.gaps(n, size, swell);
                    boolean holds = (long) gap * (n + 1) * 1000 >= (long) n * size * swell;
                    boolean isLeast = gap == 0 || (long) (gap - 1) * (n + 1) * 1000 < (long) n * size * swell;
                    c.due("gaps(" + n + ", " + size + ", " + swell + ") holds", holds ? 1 : 0, 1);
                    c.due("gaps(" + n + ", " + size + ", " + swell + ") is least", isLeast ? 1 : 0, 1);
                }
            }
        }
    }

    private static void gapsRefused() {
        RammedCobbles x = new RammedCobbles();
        for (int v : new int[] {LEAST, -1, 0, 100, GREATEST}) {
            c.refuses(x, "gaps(" + v + ", 1, 0)", () -> x.gaps(v, 1, 0), OUTSIDE);
            c.refuses(x, "gaps(1, " + v + ", 0)", () -> x.gaps(1, v, 0), OUTSIDE);
        }
        for (int swell : new int[] {LEAST, -1, 201, GREATEST}) {
            c.refuses(x, "gaps(1, 1, " + swell + ")", () -> x.gaps(1, 1, swell), OUTSIDE);
            c.refuses(x, "gaps(99, 99, " + swell + ")", () -> x.gaps(99, 99, swell), OUTSIDE);
        }
    }

    // ---- promises 31 and 32

    /** The first CELL alone is of stone, so a step out of it is 5, and the others are none: 5 by how many steps. */
    private static void speedsOfEachWidth() {
        int[][] steps = {{1, 0, 0, 0, 0}, {2, 1, 0, 0, 0}, {3, 1, 1, 0, 0}, {4, 2, 1, 1, 0}, {5, 2, 1, 1, 1}};
        for (int wide = 2; wide <= 6; wide++) {
            String row = "s1" + ".".repeat(wide - 1);
            RammedCobbles x = Checks.streetOf(row + "/" + row);
            for (int speed = 1; speed <= 5; speed++) {
                int many = steps[wide - 2][speed - 1];
                int above = many == 0 ? 0 : many == 5 ? 1 : 5;
                int below = many == 0 || many == 5 ? 1 : many;
                for (int r = 0; r < 2; r++) {
                    int at = r;
                    int by = speed;
                    String told = "shake(" + r + ", " + speed + ", ..) of " + wide;
                    c.looks(x, told + " above", () -> x.shake(at, by, 0), above);
                    c.looks(x, told + " below", () -> x.shake(at, by, 1), below);
                }
            }
        }
    }

    /** "in lowest terms"; a way down counts as a way up ("sizes"). */
    private static void shakeInLowestTerms() {
        RammedCobbles x = Checks.streetOf("s1.s1.s1/s1..s1s1/s1s1s1s1./.s1s1s1./k1s1k1k1k1");
        x.blow(21, 28);
        int[][] due = {{20, 4, 5, 1}, {10, 4, 5, 2}, {5, 4, 5, 4}, {10, 4, 5, 2}, {4, 4, 1, 1}};
        c.due("28 by 12", x.cell(21, 2), -2);
        for (int row = 0; row < 5; row++) {
            int[] d = due[row];
            int at = row;
            c.looks(x, d[0] + " by " + d[1] + " above", () -> x.shake(at, 1, 0), d[2]);
            c.looks(x, d[0] + " by " + d[1] + " below", () -> x.shake(at, 1, 1), d[3]);
        }
        RammedCobbles one = Checks.streetOf("k1k1k1s1/k1k1k1k1");
        c.due("10 by 10", one.blow(3, 10), 1);
        c.looks(one, "1 by 3 above", () -> one.shake(0, 1, 0), 1);
        c.looks(one, "1 by 3 below", () -> one.shake(0, 1, 1), 3);
        RammedCobbles second = Checks.streetOf("s1s1s1s1./s1.s1.s1");
        c.looks(second, "by speed 2 the second step alone: 5 by 2 above", () -> second.shake(0, 2, 0), 5);
        c.looks(second, "by speed 2 the second step alone: 5 by 2 below", () -> second.shake(0, 2, 1), 2);
        c.looks(second, "by speed 2 over the hollows above", () -> second.shake(1, 2, 0), 0);
        c.looks(second, "by speed 2 over the hollows below", () -> second.shake(1, 2, 1), 1);
        RammedCobbles six = Checks.streetOf("k1s1k1k1k1k1/k1k1k1k1k1k1");
        six.blow(1, 39);
        c.due("39 by 13", six.cell(1, 2), -3);
        c.looks(six, "6 by 5 above", () -> six.shake(0, 1, 0), 6);
        c.looks(six, "6 by 5 below", () -> six.shake(0, 1, 1), 5);
    }

    /** "(0 by 1: no step)"; a level row is 0 by 1, too. */
    private static void shakeOfNothing() {
        RammedCobbles x = Checks.streetOf("s1s1/..");
        for (int row = 0; row < 2; row++) {
            for (int speed = 1; speed <= 5; speed++) {
                int at = row;
                int by = speed;
                c.looks(x, "shake(" + row + ", " + speed + ", 0)", () -> x.shake(at, by, 0), 0);
                c.looks(x, "shake(" + row + ", " + speed + ", 1)", () -> x.shake(at, by, 1), 1);
            }
        }
        for (int row : new int[] {LEAST, -1, 2, 4, 5, GREATEST}) {
            c.refuses(x, "shake(" + row + ", 1, 0)", () -> x.shake(row, 1, 0), UNKNOWN);
            c.refuses(x, "shake(" + row + ", 0, 2): UNKNOWN is told first", () -> x.shake(row, 0, 2), UNKNOWN);
            c.refuses(x, "worst(" + row + ")", () -> x.worst(row), UNKNOWN);
        }
        for (int speed : new int[] {LEAST, -1, 0, 6, GREATEST}) {
            c.refuses(x, "shake(0, " + speed + ", 0)", () -> x.shake(0, speed, 0), OUTSIDE);
        }
        for (int part : new int[] {LEAST, -1, 2, GREATEST}) {
            c.refuses(x, "shake(0, 1, " + part + ")", () -> x.shake(0, 1, part), OUTSIDE);
            c.refuses(x, "shake(0, 5, " + part + ")", () -> x.shake(0, 5, part), OUTSIDE);
        }
        RammedCobbles none = new RammedCobbles();
        for (int row : new int[] {LEAST, -1, 0, 1, GREATEST}) {
            c.refuses(none, "shake(" + row + ", 1, 0) without a street", () -> none.shake(row, 1, 0), UNKNOWN);
            c.refuses(none, "worst(" + row + ") without a street", () -> none.worst(row), UNKNOWN);
        }
    }

    /** "the SPEED by which that is greatest (of those with one step at least)": each of 1 to 5 can be it. */
    private static void worstOfRows() {
        RammedCobbles x = Checks.streetOf("s1.s1.s1s1/s1s1.s1s1s1/s1s1s1.s1s1/s1s1s1s1.s1/s1s1s1s1s1.");
        // By speed 1 to 5: 20 by 5, 0, 5, 0, 0; 10 by 5, 10 by 2, 0, 0, 0; 10 by 5, 0, 5, 0, 0; and so on.
        int[] worst = {3, 2, 3, 4, 5};
        for (int row = 0; row < 5; row++) {
            int at = row;
            c.looks(x, "worst(" + row + ")", () -> x.worst(at), worst[row]);
        }
        RammedCobbles one = Checks.streetOf("s1.s1.s1/.....");
        c.looks(one, "worst by speed 1: 20 by 4, 0, 5 by 1, 0", () -> one.worst(0), 1);
        c.looks(one, "worst where nothing shakes", () -> one.worst(1), 1);
    }

    /** "of like ones the least"; speeds without a step are none, not 0. */
    private static void worstOfLikeOnes() {
        RammedCobbles x = Checks.streetOf("s1../s1s1s1/...");
        c.looks(x, "5 by 2, 5 by 1", () -> x.worst(0), 2);
        c.looks(x, "0 by 2, 0 by 1", () -> x.worst(1), 1);
        RammedCobbles two = Checks.streetOf("s1./s1s1");
        c.looks(two, "5 by 1, no other", () -> two.worst(0), 1);
        c.looks(two, "0 by 1, no other", () -> two.worst(1), 1);
        RammedCobbles six = Checks.streetOf("s1...../s1s1...s1");
        c.looks(six, "5 by 5, 5 by 2, 5, 5, 5: of like ones 3", () -> six.worst(0), 3);
        c.looks(six, "10 by 5, 5 by 2, 5, 5, 0: of like ones 3", () -> six.worst(1), 3);
    }

    /** "by which that is greatest": 9 by 4 is less than 5 by 2, though both are 2 and a part of 1. */
    private static void worstByPartsOfOne() {
        RammedCobbles x = Checks.streetOf("s1k1s1s1s1/k1k1k1k1k1");
        c.due("50 by 10", x.blow(0, 50), 5);
        c.due("24 by 12", x.blow(2, 24), 2);
        c.due("33 by 11", x.blow(3, 33), 3);
        c.due("36 by 9", x.blow(4, 36), 4);
        int[][] due = {{9, 4}, {5, 2}, {2, 1}, {1, 1}, {0, 1}};
        for (int speed = 1; speed <= 5; speed++) {
            int by = speed;
            c.looks(x, "shake(0, " + speed + ", 0)", () -> x.shake(0, by, 0), due[speed - 1][0]);
            c.looks(x, "shake(0, " + speed + ", 1)", () -> x.shake(0, by, 1), due[speed - 1][1]);
        }
        c.looks(x, "worst: 9 by 4, 5 by 2, 2, 1", () -> x.worst(0), 2);
    }
}
