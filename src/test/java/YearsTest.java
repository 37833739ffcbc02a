/** Promises 19 to 26: LOADS, WATER, YEARS and what is MENDED. */
public final class YearsTest {
    private static final int NONE = -1, UNKNOWN = -101, OUTSIDE = -102, STATE = -103;
    private static final String NINE = "s1s1s1/s1s1s1/s1s1s1";
    private static final String BASIN = "k9k9k9/k9s9k9/k9k9k9";
    private static final Checks c = new Checks("YearsTest");

    public static void main(String[] args) {
        borne();
        borneByKinds();
        bearer();
        water();
        waterThroughHollows();
        seed();
        wearTellsWhatGetsWorse();
        wearIsThatAsTheYearBegins();
        kindsGetWorse();
        cartsOfRows();
        frostLifts();
        gritIsWashedOut();
        yearsRefusals();
        mend();
        first();
        firstOfEight();
        firstTwentyTimes();
        firstRefusals();
        c.end();
    }

    private static void borneRow(RammedCobbles x, int cell, int load, int... want) {
        for (int by = 0; by < want.length; by++) {
            int at = by;
            c.looks(x, "borne(" + cell + ", " + load + ", " + by + ")", () -> x.borne(cell, load, at), want[by]);
        }
    }

    private static void borne() {
        RammedCobbles x = Checks.streetOf(NINE);
        borneRow(x, 4, 1000, 20, 80, 20, 80, 600, 80, 20, 80, 20);
        borneRow(x, 0, 1000, 800, 80, 10, 80, 20, 0, 10, 0, 0);
        borneRow(x, 1, 19, 1, 16, 1, 0, 1, 0, 0, 0, 0);
        borneRow(x, 0, 9, 9, 0, 0, 0, 0, 0, 0, 0, 0);
        borneRow(x, 8, 9999, 0, 0, 99, 0, 198, 801, 99, 801, 8001);
        c.refuses(x, "borne(9, 1, 0)", () -> x.borne(9, 1, 0), UNKNOWN);
        c.refuses(x, "borne(-1, 1, 0)", () -> x.borne(-1, 1, 0), UNKNOWN);
        c.refuses(x, "borne(0, 1, 9)", () -> x.borne(0, 1, 9), UNKNOWN);
        c.refuses(x, "borne(0, 0, -1): UNKNOWN first", () -> x.borne(0, 0, -1), UNKNOWN);
        c.refuses(x, "borne(0, 0, 0)", () -> x.borne(0, 0, 0), OUTSIDE);
        c.refuses(x, "borne(0, 10000, 0)", () -> x.borne(0, 10000, 0), OUTSIDE);
        RammedCobbles none = new RammedCobbles();
        c.refuses(none, "borne(0, 0, 0) without a street", () -> none.borne(0, 0, 0), UNKNOWN);
    }

    private static void borneByKinds() {
        RammedCobbles x = Checks.streetOf("o1l1/k1t1");
        borneRow(x, 0, 100, 85, 0, 15, 0);
        borneRow(x, 1, 400, 17, 380, 3, 0);
        borneRow(x, 2, 1000, 50, 0, 950, 0);
        borneRow(x, 3, 1000, 7, 0, 143, 850);
        RammedCobbles y = Checks.streetOf("s1./.s1");
        borneRow(y, 0, 77, 77, 0, 0, 0);
        borneRow(y, 1, 77, 0, 0, 0, 0);
    }

    private static void bearer() {
        RammedCobbles x = Checks.streetOf("s1k1/l1.");
        c.looks(x, "bearer(0, 1)", () -> x.bearer(0, 1), 0);
        c.looks(x, "bearer(2, 9999)", () -> x.bearer(2, 9999), 2);
        c.looks(x, "bearer of sand", () -> x.bearer(3, 50), NONE);
        c.refuses(x, "bearer(4, 0): UNKNOWN first", () -> x.bearer(4, 0), UNKNOWN);
        c.refuses(x, "bearer(-1, 1)", () -> x.bearer(-1, 1), UNKNOWN);
        c.refuses(x, "bearer(0, 0)", () -> x.bearer(0, 0), OUTSIDE);
        c.refuses(x, "bearer(3, 10000)", () -> x.bearer(3, 10000), OUTSIDE);
    }

    private static void water() {
        RammedCobbles x = Checks.streetOf("s1s1s1/s1.s1/s1s1s1");
        c.looks(x, "water in sand", () -> x.water(4), 5);
        c.looks(x, "water at the rim", () -> x.water(0), 0);
        x.set(40);
        c.looks(x, "water below stones of 40", () -> x.water(4), 45);
        int sink = x.blow(7, 99);
        c.due("a way out sinks", sink, 12);
        c.looks(x, "water below the lowest way out", () -> x.water(4), 33);
        RammedCobbles right = Checks.streetOf("s1s1s1/s1../s1s1s1");
        c.looks(right, "no water beside a low rim on the right", () -> right.water(4), 0);
        c.looks(right, "nor at it", () -> right.water(5), 0);
        RammedCobbles y = Checks.streetOf("s1.s1/s1.s1/s1s1s1");
        c.looks(y, "no water beside a way as low", () -> y.water(4), 0);
        y.mend(4, 1);
        c.looks(y, "no water above a way", () -> y.water(4), 0);
        c.refuses(x, "water(9)", () -> x.water(9), UNKNOWN);
        c.refuses(x, "water(-1)", () -> x.water(-1), UNKNOWN);
        RammedCobbles none = new RammedCobbles();
        c.refuses(none, "water(0) without a street", () -> none.water(0), UNKNOWN);
    }

    private static void waterThroughHollows() {
        // The way out of cell 7 winds over 8, 9, 15, 21, 20 to the low rim at 26.
        RammedCobbles x = Checks.streetOf("k1k1k1k1k1k1/k1...k1k1/k1k1k1.k1k1/k1k1..k1k1/k1k1.k1k1k1");
        int[] sand = {7, 8, 9, 15, 20, 21, 26};
        for (int cell : sand) {
            c.looks(x, "water runs off from " + cell, () -> x.water(cell), 0);
        }
        x.mend(15, 1);
        c.looks(x, "a way that is shut", () -> x.water(7), 5);
        c.looks(x, "in front of it", () -> x.water(9), 5);
        c.looks(x, "behind it", () -> x.water(21), 0);
        x.blow(15, 20);
        c.looks(x, "a way that is half shut: 20 by 10", () -> x.water(7), 3);
    }

    private static void seed() {
        RammedCobbles x = new RammedCobbles();
        c.due("seed(5)", x.seed(5), 1);
        c.due("seed(0)", x.seed(0), 5);
        c.due("seed(greatest)", x.seed(Integer.MAX_VALUE), 0);
        c.due("the greatest seed", x.count(5), Integer.MAX_VALUE);
        c.refuses(x, "seed(-1)", () -> x.seed(-1), OUTSIDE);
        c.refuses(x, "seed(least)", () -> x.seed(Integer.MIN_VALUE), OUTSIDE);
    }

    private static void wearTellsWhatGetsWorse() {
        RammedCobbles x = Checks.streetOf("s1./..", "0x20");
        c.due("wear 20 of 20", x.years(20, 0), 0);
        c.due("wear 20 of 20: a stone yet", x.cell(0, 0), 0);
        Checks.write(x, "0x21");
        x.carts();
        x.blow(0, 9);
        x.grit(0);
        c.due("wear 21: seat at first", x.cell(0, 3), 1);
        c.due("wear 21 of 20", x.years(1, 0), 0);
        c.due("wear 21 of 20: loose", x.cell(0, 0), 2);
        c.due("wear 21 of 20: seat", x.cell(0, 3), 0);
        c.due("wear 21 of 20: size", x.cell(0, 1), 1);
        int height = x.cell(0, 2);
        c.looks(x, "would be lost", () -> x.would(1, 0), 1);
        c.looks(x, "would be lost once", () -> x.would(20, 0), 1);
        x.blow(0, 1);
        c.due("lost", x.years(1, 0), 1);
        c.cells(x, "lost: sand", 0, NONE, NONE, NONE, NONE);
        c.cells(x, "lost: sizes", 1, 0, 0, 0, 0);
        c.cells(x, "lost: 5 lower", 2, height - 6, -5, -5, -5);
        c.cells(x, "lost: seats", 3, 0, 0, 0, 0);
        c.due("lost: no stones", x.count(1), 0);
        c.due("nothing more to lose", x.years(20, 10), 0);
        RammedCobbles y = Checks.streetOf("s3s2/s1s1", "0x99");
        c.due("wear 90", y.years(1, 0), 0);
        c.cells(y, "wear 90 of 100, of 80", 0, 0, 2, 0, 0);
        RammedCobbles z = Checks.streetOf("s1./..", "0x60");
        z.grit(4);
        z.years(1, 0);
        c.due("wear 60 of 20 and 40 by grit", z.cell(0, 0), 0);
        z.years(1, 0);
        c.due("less grit beside sand: wear 60 of 50", z.cell(0, 0), 2);
        c.due("joint 4 behind two years beside sand", z.cell(0, 4), 2);
    }

    private static void wearIsThatAsTheYearBegins() {
        RammedCobbles x = Checks.streetOf("s1s2/..", "0x44");
        x.years(1, 0);
        c.cells(x, "wear 44 of 40; of 60 by the hold it had", 0, 0 + 2, 0, NONE, NONE);
        RammedCobbles y = Checks.streetOf("s2s1/..", "0x44");
        y.years(1, 0);
        c.cells(y, "the same, turned", 0, 0, 2, NONE, NONE);
        RammedCobbles z = Checks.streetOf("l1s2/s1s9", "0x30,0x30");
        z.years(1, 0);
        // It gives 3 of each load to each of two stones and bears 24 twice; a loose one is given nothing back.
        c.cells(z, "a loose one below 60 by its hold", 0, 2, 0, 0, 0);
    }

    private static void kindsGetWorse() {
        RammedCobbles x = Checks.streetOf("o1.t1/.k1.", "0x21,1x99");
        x.grit(0);
        c.due("a tilted one is lost", x.years(1, 0), 1);
        c.cells(x, "an odd one is loose, a kerb stays", 0, 2, NONE, NONE, NONE, 4, NONE);
        c.due("then a loose one is lost", x.years(1, 0), 1);
        c.due("a kerb stays", x.years(20, 10), 0);
        c.cells(x, "a kerb stays", 0, NONE, NONE, NONE, NONE, 4, NONE);
        c.cells(x, "heights of what was lost", 2, -5, -5, -5, -5, 0, -5);
        RammedCobbles y = Checks.streetOf("l1./..", "0x99");
        y.grit(1);
        c.due("with joint 1", y.years(1, 0), 1);
        c.due("lost: joint", y.cell(0, 4), 0);
    }

    private static void cartsOfRows() {
        RammedCobbles x = Checks.streetOf("s1./s1.", "2x99,9x99");
        c.due("carts of rows that are not", x.years(5, 0), 0);
        c.cells(x, "carts of rows that are not", 0, 0, NONE, 0, NONE);
        Checks.write(x, "1x20,1x20,0x9");
        x.carts();
        x.years(1, 0);
        c.cells(x, "carts together: 18 and 18 are below 40", 0, 0, NONE, 0, NONE);
        Checks.write(x, "1x20,1x20,0x30");
        x.carts();
        x.years(1, 0);
        c.cells(x, "carts together: 36 and 3 are below 40", 0, 0, NONE, 0, NONE);
        Checks.write(x, "1x30,1x12,0x30");
        x.carts();
        x.years(1, 0);
        c.cells(x, "carts together: 27, 11 and 3 are above 40", 0, 0, NONE, 2, NONE);
    }

    private static void frostLifts() {
        RammedCobbles x = Checks.streetOf(BASIN, "9x1");
        x.grit(5);
        c.due("the basin", x.blow(4, 99), 4);
        int[] draws = {8, 8, 3, 5, 1, 7, 0, 9, 2, 6};
        long seed = 1;
        for (int draw : draws) {
            int height = x.cell(4, 2);
            seed = (1103515245L * seed + 12345L) % 2147483648L;
            c.looks(x, "would, frost " + draw, () -> x.would(1, draw), 0);
            c.due("frost " + draw, x.years(1, draw), 0);
            c.due("a draw as great as the frost lifts nothing", x.cell(4, 0), 0);
            c.due("nor raises it", x.cell(4, 2), height);
            c.due("the seed goes on", x.count(5), seed);
        }
        c.due("grit by ten years of water", x.cell(4, 4), 0);
        c.due("grit where there is none", x.cell(1, 4), 5);
        x.seed(1);
        x.grit(5);
        c.due("frost 9 by a draw of 8", x.years(1, 9), 0);
        c.due("lifted: kind", x.cell(4, 0), 3);
        c.due("lifted: height", x.cell(4, 2), -2);
        c.due("lifted: seat", x.cell(4, 3), 0);
        c.due("lifted: size", x.cell(4, 1), 9);
        c.due("lifted: joint", x.cell(4, 4), 4);
        c.due("lifted: seed", x.count(5), 1103527590);
        c.due("a tilted one draws nothing", x.years(1, 10), 0);
        c.due("a tilted one draws nothing: seed", x.count(5), 1103527590);
        c.due("a tilted one in water: joint", x.cell(4, 4), 3);
        RammedCobbles kerb = Checks.streetOf("s9s9s9/s9k9s9/s9s9s9", "9x1");
        kerb.set(0);
        kerb.years(20, 10);
        c.due("no water, no draw", kerb.count(5), 1);
        RammedCobbles two = Checks.streetOf("k9k9k9k9/k9o9s9k9/k9k9k9k9", "9x1");
        two.blow(5, 99);
        two.blow(6, 99);
        two.seed(1103527590);
        two.years(1, 8);
        // The draws are 8 and 3: in order of cells.
        c.due("the first of two draws 8", two.cell(5, 0), 1);
        c.due("the second of two draws 3", two.cell(6, 0), 3);
    }

    private static void gritIsWashedOut() {
        RammedCobbles x = Checks.streetOf("s9s9/s9.", "9x1");
        x.grit(9);
        x.years(1, 0);
        c.cells(x, "beside sand", 4, 9, 8, 8, 0);
        x.years(20, 0);
        c.cells(x, "0 at least", 4, 9, 0, 0, 0);
        RammedCobbles y = Checks.streetOf("s9s9s9/s9s9./s9.s9", "9x1");
        y.grit(5);
        y.blow(4, 90);
        y.years(1, 0);
        c.due("in water and beside sand twice", y.cell(4, 4), 3);
        RammedCobbles z = Checks.streetOf("s9s9s9/s9l1s9/s9s9s9", "1x99,1x99,1x99,1x99");
        z.grit(9);
        z.set(0);
        c.due("lost in a basin", z.years(1, 0), 1);
        c.cells(z, "beside new sand", 4, 9, 8, 9, 8, 0, 8, 9, 8, 9);
        c.due("new sand is 5 lower", z.cell(4, 2), -5);
        c.due("water stands there", z.water(4), 5);
    }

    private static void yearsRefusals() {
        RammedCobbles none = new RammedCobbles();
        c.refuses(none, "years(0, 0) of nothing", () -> none.years(0, 0), STATE);
        c.refuses(none, "would(0, 0) of nothing", () -> none.would(0, 0), STATE);
        RammedCobbles street = Checks.streetOf(NINE);
        c.refuses(street, "years(1, 11) without carts", () -> street.years(1, 11), STATE);
        c.refuses(street, "would(1, 11) without carts", () -> street.would(1, 11), STATE);
        RammedCobbles carts = new RammedCobbles();
        Checks.write(carts, "0x1");
        carts.carts();
        c.refuses(carts, "years(1, 1) without a street", () -> carts.years(1, 1), STATE);
        c.refuses(carts, "would(1, 1) without a street", () -> carts.would(1, 1), STATE);
        RammedCobbles x = Checks.streetOf(NINE, "0x99");
        for (int[] wrong : new int[][] {{0, 0}, {21, 0}, {1, -1}, {1, 11}}) {
            c.refuses(x, "years outside", () -> x.years(wrong[0], wrong[1]), OUTSIDE);
            c.refuses(x, "would outside", () -> x.would(wrong[0], wrong[1]), OUTSIDE);
        }
    }

    private static void mend() {
        RammedCobbles x = Checks.streetOf("s1o2l3/t4k5.");
        x.grit(6);
        x.blow(2, 50);
        x.blow(3, 50);
        c.due("mend sand", x.mend(5, 8), 1);
        c.due("mend a loose one", x.mend(2, 8), 0);
        c.due("mend a tilted one", x.mend(3, 8), 0);
        c.cells(x, "mended: kinds", 0, 0, 1, 0, 0, 4, 1);
        c.cells(x, "mended: sizes", 1, 1, 2, 3, 4, 5, 8);
        c.cells(x, "mended: heights", 2, 0, 0, 0, 0, 0, 0);
        c.cells(x, "mended: seats", 3, 0, 0, 0, 0, 0, 0);
        c.cells(x, "mended: joints stay", 4, 6, 6, 6, 6, 6, 0);
        for (int cell = 0; cell < 6; cell++) {
            int at = cell;
            c.refuses(x, "mend " + cell + " that is whole", () -> x.mend(at, 1), STATE);
        }
        c.refuses(x, "mend(0, 0): OUTSIDE ahead of STATE", () -> x.mend(0, 0), OUTSIDE);
        c.refuses(x, "mend(0, 10)", () -> x.mend(0, 10), OUTSIDE);
        c.refuses(x, "mend(6, 0): UNKNOWN first", () -> x.mend(6, 0), UNKNOWN);
        c.refuses(x, "mend(-1, 1)", () -> x.mend(-1, 1), UNKNOWN);
        RammedCobbles y = Checks.streetOf("../l1.");
        c.due("mend(0, 9)", y.mend(0, 9), 1);
        c.due("mend(1, 1)", y.mend(1, 1), 1);
        c.refuses(y, "mend(2, 10) of a loose one", () -> y.mend(2, 10), OUTSIDE);
        RammedCobbles none = new RammedCobbles();
        c.refuses(none, "mend(0, 1) without a street", () -> none.mend(0, 1), UNKNOWN);
    }

    private static void first() {
        RammedCobbles x = Checks.streetOf("l9k9l1/...", "0x60");
        c.due("first: lost else", x.would(1, 0), 1);
        c.due("first(1, 1, 0, 0)", x.first(1, 1, 0, 0), 2);
        c.due("first(1, 1, 0, 1)", x.first(1, 1, 0, 1), 0);
        c.due("first(2, 1, 0, 0): of like ones of least bits", x.first(2, 1, 0, 0), 3);
        c.due("first: in four years sand below it is better", x.first(1, 4, 0, 0), 16);
        c.due("first: nothing is mended", x.cell(2, 0), 2);
        c.due("first: done", x.count(7), 4);
        c.due("first: the seed stays", x.count(5), 1);
        RammedCobbles y = Checks.streetOf("l1l1/..", "0x21");
        c.due("first: lost else", y.would(1, 0), 2);
        c.due("first of loose ones", y.first(1, 1, 0, 0), 1);
        c.due("first of loose ones: lost", y.first(1, 1, 0, 1), 0);
        c.due("first of four", y.first(4, 1, 0, 0), 15);
        RammedCobbles sand = Checks.streetOf("../..", "0x99,0x1");
        c.due("first: sand with size 5 bears 100", sand.first(1, 2, 0, 0), 1);
        Checks.write(sand, "0x99,0x2");
        sand.carts();
        c.due("first: sand with size 5 does not bear 101", sand.first(1, 2, 0, 0), 4);
    }

    private static void firstOfEight() {
        // Cell 11, the ninth that can be mended, is the one that would help.
        RammedCobbles x = Checks.streetOf("l9l9l9l9l9k9/l9l9l9k9k9l1", "1x70,1x70");
        c.due("the ninth is not looked at", x.first(1, 1, 0, 1), 1);
        c.due("nor told", x.first(1, 1, 0, 0), 1);
        RammedCobbles y = Checks.streetOf("l9l9l9l9s9k9/l9l9l9k9k9l1", "1x70,1x70");
        c.due("the eighth is looked at", y.first(1, 1, 0, 1), 0);
        c.due("and told", y.first(1, 1, 0, 0), 128);
    }

    private static void firstTwentyTimes() {
        RammedCobbles x = Checks.streetOf("l1l1/..", "0x21");
        x.first(0, 1, 0, 0);
        for (int i = 0; i < 20; i++) {
            c.due("first, time " + i, x.first(1, 1, 0, 0), 1);
            c.due("first was done", x.count(7), i + 1);
        }
        c.refuses(x, "first, once more", () -> x.first(1, 1, 0, 0), STATE);
        c.refuses(x, "first, once more, OUTSIDE", () -> x.first(1, 0, 0, 0), OUTSIDE);
        Checks.write(x, "l1l1/..");
        x.street();
        c.refuses(x, "first, on another street", () -> x.first(1, 1, 0, 0), STATE);
    }

    private static void firstRefusals() {
        RammedCobbles none = new RammedCobbles();
        c.refuses(none, "first of nothing", () -> none.first(0, 0, 0, 0), STATE);
        RammedCobbles street = Checks.streetOf("l1l1/..");
        c.refuses(street, "first without carts", () -> street.first(0, 0, 0, 0), STATE);
        RammedCobbles x = Checks.streetOf("l1s1/.s1", "0x21");
        for (int[] wrong : new int[][] {{0, 1, 0, 0}, {5, 1, 0, 0}, {1, 0, 0, 0}, {1, 21, 0, 0}, {1, 1, -1, 0},
                {1, 1, 11, 0}, {1, 1, 0, -1}, {1, 1, 0, 2}, {3, 1, 0, 2}}) {
            c.refuses(x, "first outside", () -> x.first(wrong[0], wrong[1], wrong[2], wrong[3]), OUTSIDE);
        }
        c.refuses(x, "first: fewer than 3", () -> x.first(3, 1, 0, 0), STATE);
        c.due("first: two", x.first(2, 1, 0, 0), 3);
        RammedCobbles whole = Checks.streetOf("s1k1/o1s1", "0x1");
        c.refuses(whole, "first: none can be mended", () -> whole.first(1, 1, 0, 0), STATE);
    }
}
