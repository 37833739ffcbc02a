import java.util.TreeSet;

/** The bounds that the document names for LOADS, WATER, YEARS and what is MENDED (promises 19 to 26). */
public final class YearsBoundsTest {
    private static final int NONE = -1, UNKNOWN = -101, OUTSIDE = -102, STATE = -103;
    private static final int LEAST = Integer.MIN_VALUE, GREATEST = Integer.MAX_VALUE;
    /** One stone that nothing holds. */
    private static final String ALONE = "s1./..";
    /** The stone in the middle can stand in WATER; no ROW 9 is there, so a cart of it wears nothing. */
    private static final String BASIN = "k9k9k9/k9s9k9/k9k9k9";
    private static final String NO_LOADS = "9x99";
    private static final Checks c = new Checks("YearsBoundsTest");

    public static void main(String[] args) {
        loads();
        loadsRoundedDown();
        loadsGoTwoStonesFar();
        loadsByTwoWays();
        loadsOnSand();
        loadsEndAtTheRim();
        bearers();
        waterAtTheRim();
        waterInTheMiddle();
        waterByTheLowestWay();
        seeds();
        drawsWrapAround();
        frosts();
        drawsAreTakenByWhom();
        kerbInWater();
        waterBeforeOneLifts();
        stepsOfAYear();
        yearsOneToTwenty();
        yearsOneByOne();
        wearByKindsOfEachYear();
        yearsRefused();
        wearJustAbove();
        wearOfAllTogether();
        rowsOfCarts();
        lostIsSand();
        kerbStays();
        jointsNotBelowZero();
        besideSandAtTheRim();
        sizesToMend();
        whatCanBeMended();
        firstOfOneToFour();
        firstOfTheFirstEight();
        firstByBitsAndSize();
        firstOfAsManyAsThereAre();
        firstTwentyTimes();
        firstFromNow();
        c.end();
    }

    // ---- promises 19 and 20

    private static void borne(RammedCobbles x, int cell, int load, int... want) {
        for (int by = 0; by < want.length; by++) {
            int at = by;
            c.looks(x, "borne(" + cell + ", " + load + ", " + by + ")", () -> x.borne(cell, load, at), want[by]);
        }
    }

    /** "load (1 to 9999)"; "UNKNOWN: cell, by" is told ahead of it. */
    private static void loads() {
        RammedCobbles x = Checks.streetOf(ALONE);
        borne(x, 0, 1, 1, 0, 0, 0);
        borne(x, 0, 2, 2, 0, 0, 0);
        borne(x, 0, 9998, 9998, 0, 0, 0);
        borne(x, 0, 9999, 9999, 0, 0, 0);
        for (int load : new int[] {LEAST, -1, 0, 10000, GREATEST}) {
            c.refuses(x, "borne(0, " + load + ", 0)", () -> x.borne(0, load, 0), OUTSIDE);
            c.refuses(x, "borne(1, " + load + ", 1) of sand", () -> x.borne(1, load, 1), OUTSIDE);
            c.refuses(x, "bearer(0, " + load + ")", () -> x.bearer(0, load), OUTSIDE);
            c.refuses(x, "borne(4, " + load + ", 0)", () -> x.borne(4, load, 0), UNKNOWN);
            c.refuses(x, "borne(0, " + load + ", 4)", () -> x.borne(0, load, 4), UNKNOWN);
            c.refuses(x, "bearer(4, " + load + ")", () -> x.bearer(4, load), UNKNOWN);
        }
        for (int cell : new int[] {LEAST, -1, 4, GREATEST}) {
            c.refuses(x, "borne(" + cell + ", 1, 0)", () -> x.borne(cell, 1, 0), UNKNOWN);
            c.refuses(x, "borne(0, 1, " + cell + ")", () -> x.borne(0, 1, cell), UNKNOWN);
            c.refuses(x, "bearer(" + cell + ", 1)", () -> x.bearer(cell, 1), UNKNOWN);
            c.refuses(x, "water(" + cell + ")", () -> x.water(cell), UNKNOWN);
        }
    }

    /** "the LOAD times the GRIP of that one by 20 (rounded down)". */
    private static void loadsRoundedDown() {
        RammedCobbles stone = Checks.streetOf("l1s1/..");
        borne(stone, 0, 9, 9, 0);
        borne(stone, 0, 10, 9, 1);
        borne(stone, 0, 19, 18, 1);
        borne(stone, 0, 20, 18, 2);
        RammedCobbles odd = Checks.streetOf("l1o1/..");
        borne(odd, 0, 19, 19, 0);
        borne(odd, 0, 20, 19, 1);
        borne(odd, 0, 39, 38, 1);
        borne(odd, 0, 40, 38, 2);
        RammedCobbles kerb = Checks.streetOf("l1k1/..");
        borne(kerb, 0, 6, 6, 0);
        borne(kerb, 0, 7, 6, 1);
        borne(kerb, 0, 13, 12, 1);
        borne(kerb, 0, 14, 12, 2);
        RammedCobbles loose = Checks.streetOf("s1l1/t1.");
        borne(loose, 0, 9999, 9999, 0, 0, 0);
    }

    /** "each of these gives each stone BESIDE it, but the first one, likewise of what it got": and no farther. */
    private static void loadsGoTwoStonesFar() {
        RammedCobbles x = Checks.streetOf("s1s1s1s1/....");
        borne(x, 0, 9999, 9000, 900, 99, 0, 0, 0, 0, 0);
        borne(x, 0, 99, 90, 9, 0, 0);
        borne(x, 0, 100, 90, 9, 1, 0);
        borne(x, 3, 9999, 0, 99, 900, 9000);
        borne(x, 1, 9999, 999, 8001, 900, 99);
        RammedCobbles two = Checks.streetOf("s1s1/..");
        borne(two, 0, 9999, 9000, 999);
        RammedCobbles odd = Checks.streetOf("l1s1o1/...");
        borne(odd, 0, 9999, 9000, 950, 49);
        borne(odd, 0, 199, 180, 19, 0);
        borne(odd, 0, 200, 180, 19, 1);
        RammedCobbles kerbs = Checks.streetOf("l1k1k1/...");
        borne(kerbs, 0, 9999, 8500, 1275, 224);
    }

    /** "of a stone to which it comes by two ways together". */
    private static void loadsByTwoWays() {
        RammedCobbles x = Checks.streetOf("k1k1/k1k1");
        borne(x, 0, 9999, 7001, 1275, 1275, 448);
        RammedCobbles nine = Checks.streetOf("k1k1k1/k1k1k1/k1k1k1");
        borne(nine, 4, 9999, 448, 1051, 448, 1051, 4003, 1051, 448, 1051, 448);
    }

    /** "A LOAD on SAND is gone": and none goes into SAND, or through it. */
    private static void loadsOnSand() {
        RammedCobbles x = Checks.streetOf("s1.s1/.k1.");
        borne(x, 1, 9999, 0, 0, 0, 0, 0, 0);
        borne(x, 3, 1, 0, 0, 0, 0, 0, 0);
        borne(x, 0, 9999, 9999, 0, 0, 0, 0, 0);
        borne(x, 4, 9999, 0, 0, 0, 0, 9999, 0);
    }

    private static void loadsEndAtTheRim() {
        RammedCobbles x = Checks.streetOf("l9l9k1/k1l9l9");
        borne(x, 2, 100, 0, 0, 100, 0, 0, 0);
        borne(x, 3, 100, 0, 0, 0, 100, 0, 0);
        borne(x, 1, 100, 0, 85, 15, 0, 0, 0);
        borne(x, 5, 100, 0, 0, 15, 0, 0, 85);
    }

    /** "NONE: it is gone". */
    private static void bearers() {
        RammedCobbles x = Checks.streetOf("k1k1k1/k1t1k1/k1k1.");
        for (int load : new int[] {1, 9999}) {
            for (int cell = 0; cell < 8; cell++) {
                int at = cell;
                c.looks(x, "bearer(" + cell + ", " + load + ")", () -> x.bearer(at, load), cell);
            }
            c.looks(x, "bearer(8, " + load + ") of sand", () -> x.bearer(8, load), NONE);
        }
    }

    // ---- promise 21

    /** "to one at the rim": one that is there itself holds no water, be it as low as can be. */
    private static void waterAtTheRim() {
        for (String text : new String[] {"s1.s1s1s1s1/s1s1s1s1.s1", "s1s1/.s1/s1./s1s1/s1s1"}) {
            RammedCobbles x = Checks.streetOf(text);
            x.set(40);
            for (int cell = 0; cell < x.count(0); cell++) {
                int at = cell;
                c.looks(x, "water(" + cell + ") of " + text, () -> x.water(at), 0);
            }
        }
        RammedCobbles x = Checks.streetOf(".s1.s1/s1s1s1./.s1s1s1/s1.s1.");
        x.set(40);
        for (int cell : new int[] {0, 2, 7, 8, 13, 15}) {
            c.looks(x, "water(" + cell + ") of sand at the rim", () -> x.water(cell), 0);
        }
    }

    /** "as deep as its HEIGHT is below": none where it is as high, or higher. */
    private static void waterInTheMiddle() {
        RammedCobbles x = Checks.streetOf(BASIN);
        c.looks(x, "as high as the rim", () -> x.water(4), 0);
        x.blow(4, 16);
        c.looks(x, "lower by 1", () -> x.water(4), 1);
        x.blow(4, 99);
        c.looks(x, "lower by 6", () -> x.water(4), 6);
        RammedCobbles hill = Checks.streetOf(".../.s1./...");
        c.looks(hill, "higher than the rim", () -> hill.water(4), 0);
        hill.set(40);
        c.looks(hill, "much higher than the rim", () -> hill.water(4), 0);
        hill.set(0);
        hill.ram(20, 40, 0);
        c.due("a hill sinks by 5, 4, 3, 2 four times, 1 ten times", hill.cell(4, 2), -30);
        c.looks(hill, "below the rim of sand", () -> hill.water(4), 25);
    }

    /** "of all ways .. that on which the greatest HEIGHT (its own, too) is least": round corners, not across them. */
    private static void waterByTheLowestWay() {
        RammedCobbles corner = Checks.streetOf(".s1./s1.s1/.s1.");
        c.looks(corner, "no way out across a corner", () -> corner.water(4), 5);
        for (int side : new int[] {1, 3, 5, 7}) {
            RammedCobbles x = Checks.streetOf("k1s1k1/s1.s1/k1s1k1");
            x.set(10);
            x.blow(side, 21);
            int low = x.cell(side, 2);
            c.due("one side is lower: 21 by 10", low, 8);
            c.looks(x, "out by the side " + side, () -> x.water(4), 13);
        }
        RammedCobbles far = Checks.streetOf("k1k1k1k1k1k1/k1....k1/k1k1k1k1.k1/k1....k1/k1.k1k1k1k1");
        for (int cell = 7; cell <= 10; cell++) {
            int at = cell;
            c.looks(far, "the long way out from " + cell, () -> far.water(at), 0);
        }
        far.mend(16, 1);
        c.looks(far, "the long way is shut", () -> far.water(7), 5);
        c.looks(far, "below it is none", () -> far.water(22), 0);
        far.blow(16, 39);
        c.due("it sinks by 39 by 10", far.cell(16, 2), -3);
        c.looks(far, "the long way is higher by 2", () -> far.water(7), 2);
        c.looks(far, "nothing stands on it", () -> far.water(16), 0);
    }

    // ---- promise 22

    /** "OUTSIDE: below 0." */
    private static void seeds() {
        RammedCobbles x = new RammedCobbles();
        c.due("seed(0): was 1", x.seed(0), 1);
        c.due("seed(1): was 0", x.seed(1), 0);
        c.due("seed(greatest - 1): was 1", x.seed(GREATEST - 1), 1);
        c.due("seed(greatest)", x.seed(GREATEST), GREATEST - 1);
        c.due("the seed", x.count(5), GREATEST);
        for (int v : new int[] {-1, -2, LEAST, LEAST + 1}) {
            c.refuses(x, "seed(" + v + ")", () -> x.seed(v), OUTSIDE);
        }
        c.due("seed() behind refusals", x.seed(7), GREATEST);
    }

    private static RammedCobbles basin() {
        RammedCobbles x = Checks.streetOf(BASIN, NO_LOADS);
        x.blow(4, 99);
        return x;
    }

    /** "1103515245 times it and 12345, its rest by 2 to the 31": from the least and the greatest seed, too. */
    private static void drawsWrapAround() {
        RammedCobbles x = basin();
        c.due("the middle is in water", x.water(4), 6);
        int[] seeds = {1103527590, 377401575, 662824084, 1147902781, 2035015474};
        for (int seed : seeds) {
            x.years(1, 0);
            c.due("the next seed from 1", x.count(5), seed);
        }
        x.seed(0);
        x.years(1, 0);
        c.due("the next seed from 0", x.count(5), 12345);
        x.seed(GREATEST);
        x.years(1, 0);
        c.due("the next seed from the greatest", x.count(5), 1043980748);
        c.due("by frost 0 nothing lifts", x.cell(4, 0), 0);
    }

    /** "lifts, if a DRAW of 10 is below FROST (0 to 10)": seeds whose next draws are 0 to 9, each by each FROST. */
    private static void frosts() {
        for (int draw = 0; draw < 10; draw++) {
            int seed = seedThatDraws(draw);
            for (int frost = 0; frost <= 10; frost++) {
                RammedCobbles x = basin();
                x.grit(9);
                x.seed(seed);
                c.due("lost by frost", x.years(1, frost), 0);
                boolean lifts = draw < frost;
                String told = "a draw of " + draw + " by frost " + frost;
                c.due(told + ": kind", x.cell(4, 0), lifts ? 3 : 0);
                c.due(told + ": height", x.cell(4, 2), lifts ? -4 : -6);
                c.due(told + ": seat", x.cell(4, 3), lifts ? 0 : 1);
                c.due(told + ": joint", x.cell(4, 4), 8);
                c.due(told + ": size", x.cell(4, 1), 9);
            }
        }
    }

    private static long next(long seed) {
        return (1103515245L * seed + 12345L) % 2147483648L;
    }

    private static int seedThatDraws(int draw) {
        int seed = 0;
        while (next(seed) / 65536 % 10 != draw) {
            seed++;
        }
        return seed;
    }

    /** "each STONE and ODD there, in order": LOOSE and TILTED ones and KERBS in WATER take none, nor do those in none. */
    private static void drawsAreTakenByWhom() {
        for (char kind : "soltk".toCharArray()) {
            RammedCobbles x = Checks.streetOf("k9k9k9/k9" + kind + "9k9/k9k9k9", NO_LOADS);
            x.set(0);
            x.grit(4);
            x.years(1, 10);
            c.due(kind + " in no water draws nothing", x.count(5), 1);
            c.due(kind + " in no water: joint", x.cell(4, 4), 4);
            if (kind != 'k') {
                x.blow(4, 99);
                x.years(1, 10);
                boolean draws = kind == 's' || kind == 'o';
                c.due(kind + " in water draws", x.count(5), draws ? 1103527590 : 1);
                c.due(kind + " in water: kind", x.cell(4, 0), draws ? 3 : "soltk".indexOf(kind));
                c.due(kind + " in water: joint", x.cell(4, 4), 3);
            }
        }
        RammedCobbles sand = Checks.streetOf("k9k9k9/k9.k9/k9k9k9", NO_LOADS);
        sand.years(1, 10);
        c.due("sand in water draws nothing", sand.count(5), 1);
        c.due("sand in water: joint", sand.cell(4, 4), 0);
        c.due("sand in water: height", sand.cell(4, 2), -5);
    }

    /** A KERB comes into WATER when all about it have been lifted above the rim: its JOINT is 1 less, it takes no DRAW. */
    private static void kerbInWater() {
        RammedCobbles x = Checks.streetOf("k1k1k1k1k1/k1k1s9k1k1/k1s9k9s9k1/k1k1s9k1k1/k1k1k1k1k1", NO_LOADS);
        int[] about = {7, 11, 13, 17};
        for (int cell : about) {
            c.due("16 by 16", x.blow(cell, 16), 1);
        }
        x.grit(5);
        x.years(1, 10);
        for (int cell : about) {
            c.due("lifted about the kerb", x.cell(cell, 2), 1);
        }
        c.due("four draws", x.count(5), 1147902781);
        c.due("the kerb is in water", x.water(12), 1);
        c.due("the kerb's joint as the year begins", x.cell(12, 4), 5);
        x.years(1, 10);
        c.due("the kerb's joint", x.cell(12, 4), 4);
        c.due("the kerb's kind", x.cell(12, 0), 4);
        c.due("the kerb's height", x.cell(12, 2), 0);
        c.due("no draw", x.count(5), 1147902781);
    }

    /**
     * "In all CELLS where WATER stands then": behind step 2, and before one lifts. The stone in the middle lifts above
     * the way out of the one at the right; WATER stands there in the next YEAR.
     */
    private static void waterBeforeOneLifts() {
        RammedCobbles x = Checks.streetOf("k9k9k9k9/s9s9s9k9/k9k9k9k9", NO_LOADS);
        x.set(10);
        c.due("the way out: 60 by 12", x.blow(4, 60), 5);
        c.due("the middle: 84 by 14", x.blow(5, 84), 6);
        c.due("at the right: 75 by 15", x.blow(6, 75), 5);
        x.grit(3);
        x.years(1, 10);
        c.due("one draw", x.count(5), 1103527590);
        c.due("the middle is lifted", x.cell(5, 2), 6);
        c.due("at the right is a stone yet", x.cell(6, 0), 0);
        c.due("its joint", x.cell(6, 4), 3);
        c.due("water stands there now", x.water(6), 1);
        x.years(1, 10);
        c.due("the second draw", x.count(5), 377401575);
        c.due("at the right is lifted", x.cell(6, 2), 7);
        c.due("its joint then", x.cell(6, 4), 2);
    }

    /** What is LOST in step 2 lets WATER out in step 3 and is SAND in step 4; what is LOOSE by step 2 takes no DRAW. */
    private static void stepsOfAYear() {
        RammedCobbles out = Checks.streetOf("k9k9k9/l1s9k9/k9k9k9", "1x99,1x99,1x99");
        c.due("the middle: 52 by 13", out.blow(4, 52), 4);
        c.due("water as the year begins", out.water(4), 4);
        out.grit(5);
        out.years(1, 10);
        c.due("wear 186 of 20 and 130: lost", out.cell(3, 0), NONE);
        c.due("no water, no draw", out.count(5), 1);
        c.due("the middle is a stone yet", out.cell(4, 0), 0);
        c.due("its joint, by sand alone", out.cell(4, 4), 4);
        RammedCobbles loose = Checks.streetOf("k9k9k9/k9s1k9/k9k9k9", "1x99,1x99,1x99,1x99,1x99,1x99");
        loose.blow(4, 16);
        loose.grit(5);
        c.due("water of 1", loose.water(4), 1);
        loose.years(1, 10);
        c.due("wear 330 of 20 and 170: loose", loose.cell(4, 0), 2);
        c.due("a loose one takes no draw", loose.count(5), 1);
        c.due("its joint, by water", loose.cell(4, 4), 4);
        c.due("its height", loose.cell(4, 2), -1);
        c.due("its seat", loose.cell(4, 3), 0);
    }

    // ---- promises 23 and 24

    /**
     * "years (1 to 20)": the loose one is lost in year 10, when its grit is gone (45 above 40), the stone beside it,
     * by the sand that is there then, is loose in year 19 and lost in year 20 (50 above 40).
     */
    private static void yearsOneToTwenty() {
        int[] years = {1, 2, 9, 10, 11, 18, 19, 20};
        int[] lost = {0, 0, 0, 1, 1, 1, 1, 2};
        int[] kindOfTheStone = {0, 0, 0, 0, 0, 0, 2, NONE};
        for (int i = 0; i < years.length; i++) {
            RammedCobbles x = Checks.streetOf(".l1s2/l9l9l9", "0x50");
            x.grit(9);
            int many = years[i];
            c.looks(x, "would(" + many + ", 0)", () -> x.would(many, 0), lost[i]);
            c.due("years(" + many + ", 0)", x.years(many, 0), lost[i]);
            c.due("the loose one behind " + many, x.cell(1, 0), many < 10 ? 2 : NONE);
            c.due("the stone behind " + many, x.cell(2, 0), kindOfTheStone[i]);
            c.due("grit of the loose one behind " + many, x.cell(1, 4), Math.max(0, 9 - many));
            c.due("stones behind " + many, x.count(1), 5 - lost[i]);
        }
    }

    /** So many YEARS are so often one: the kinds, joints, water and draws of one are those that the next begins with. */
    private static void yearsOneByOne() {
        for (int frost = 0; frost <= 10; frost += 5) {
            RammedCobbles once = worn();
            RammedCobbles often = worn();
            int lost = 0;
            for (int i = 0; i < 20; i++) {
                lost += often.years(1, frost);
            }
            c.due("twenty years, frost " + frost, once.years(20, frost), lost);
            c.due("behind twenty years, frost " + frost, once.digest(), often.digest());
        }
    }

    /**
     * "by KINDS as the YEAR begins": of each of them. The one at the right is LOOSE by the first year, so in the second
     * the other gives nothing away: 99 and 9 above 100, where it was 90 and 9 of 100 and 20.
     */
    private static void wearByKindsOfEachYear() {
        int[] left = {0, 2, 2};
        int[] right = {2, NONE, NONE};
        int[] lost = {0, 1, 1};
        RammedCobbles often = Checks.streetOf("s5s1/..", "0x99");
        for (int many = 1; many <= 3; many++) {
            RammedCobbles x = Checks.streetOf("s5s1/..", "0x99");
            c.due("kinds of each: years(" + many + ", 0)", x.years(many, 0), lost[many - 1]);
            c.cells(x, "kinds behind " + many, 0, left[many - 1], right[many - 1], NONE, NONE);
            often.years(1, 0);
            c.due("kinds of each: so often one", often.digest(), x.digest());
        }
    }

    private static RammedCobbles worn() {
        RammedCobbles x = Checks.streetOf("s1s2s3s4s5/o1s2o3s4o5/s9l8t7s6k5/s1s2.s4s5/o9o8o7o6o5",
                "0x99,1x60,2x99,3x10,4x99,3x9");
        x.grit(7);
        x.ram(40, 3, 3);
        x.seed(31);
        return x;
    }

    /** "STATE: no STREET, no CARTS; OUTSIDE: years (1 to 20), frost", with the least and the greatest ints. */
    private static void yearsRefused() {
        RammedCobbles x = Checks.streetOf("s1l1/..", "0x99");
        RammedCobbles street = Checks.streetOf("s1l1/..");
        RammedCobbles carts = new RammedCobbles();
        Checks.write(carts, "0x99");
        carts.carts();
        for (int years : new int[] {LEAST, -1, 0, 21, GREATEST}) {
            c.refuses(x, "years(" + years + ", 0)", () -> x.years(years, 0), OUTSIDE);
            c.refuses(x, "would(" + years + ", 0)", () -> x.would(years, 0), OUTSIDE);
            c.refuses(street, "years(" + years + ", 0) without carts", () -> street.years(years, 0), STATE);
            c.refuses(street, "would(" + years + ", 0) without carts", () -> street.would(years, 0), STATE);
            c.refuses(carts, "years(" + years + ", 0) without a street", () -> carts.years(years, 0), STATE);
            c.refuses(carts, "would(" + years + ", 0) without a street", () -> carts.would(years, 0), STATE);
        }
        for (int frost : new int[] {LEAST, -1, 11, GREATEST}) {
            c.refuses(x, "years(1, " + frost + ")", () -> x.years(1, frost), OUTSIDE);
            c.refuses(x, "would(1, " + frost + ")", () -> x.would(1, frost), OUTSIDE);
        }
    }

    /** "with WEAR above 20 times SIZE and 10 times HOLD": as much is not above. */
    private static void wearJustAbove() {
        for (int size = 1; size <= 4; size++) {
            for (int joint = 0; joint <= 1; joint++) {
                int bears = 20 * size + 10 * joint;
                for (int load = bears - 1; load <= bears + 1; load++) {
                    RammedCobbles x = Checks.streetOf("s" + size + "./.o" + size, "0x" + load + ",1x" + load);
                    x.grit(joint);
                    x.years(1, 0);
                    String told = "size " + size + ", joint " + joint + ", wear " + load;
                    c.due(told + ": a stone", x.cell(0, 0), load > bears ? 2 : 0);
                    c.due(told + ": an odd one", x.cell(3, 0), load > bears ? 2 : 1);
                    c.due(told + ": its size stays", x.cell(3, 1), size);
                    c.due(told + ": its height stays", x.cell(0, 2), 0);
                }
            }
        }
        // 90 of 99 by its own and 9 by the other, against 20 times size and 10 times the hold of 2.
        RammedCobbles held = Checks.streetOf("s4s3/..", "0x99");
        held.years(1, 0);
        c.due("wear 98 of 100", held.cell(0, 0), 0);
        c.due("wear 98 of 80", held.cell(1, 0), 2);
    }

    /** "what a stone has BORNE of all, together": six carts of 99 on one stone. */
    private static void wearOfAllTogether() {
        String six = "0x99,0x99,0x99,0x99,0x99,0x99";
        RammedCobbles x = Checks.streetOf("s9./..", six);
        x.grit(9);
        x.years(1, 0);
        c.due("wear 594 of 180 and 90", x.cell(0, 0), 2);
        RammedCobbles two = Checks.streetOf("s9./..", "0x90,0x90");
        two.years(1, 0);
        c.due("wear 90 and 90 of 180", two.cell(0, 0), 0);
        RammedCobbles more = Checks.streetOf("s9./..", "0x90,0x90,0x1");
        more.years(1, 0);
        c.due("wear 90, 90 and 1 of 180", more.cell(0, 0), 2);
    }

    /** "(if there is such a ROW)": the last ROW and the first that is not there. */
    private static void rowsOfCarts() {
        for (int rows = 2; rows <= 5; rows++) {
            String text = "s1." + "/s1.".repeat(rows - 1);
            for (int row = 0; row <= 9; row++) {
                RammedCobbles x = Checks.streetOf(text, row + "x99");
                x.years(1, 0);
                for (int i = 0; i < rows; i++) {
                    c.due("a cart of row " + row + " of " + rows + ", row " + i, x.cell(2 * i, 0), i == row ? 2 : 0);
                }
            }
        }
    }

    /** "LOST: SAND is there, 5 lower, SEAT and JOINT 0"; "What becomes LOOSE or TILTED has SEAT 0". */
    private static void lostIsSand() {
        RammedCobbles x = Checks.streetOf("l3t4/..", "0x99,0x99");
        x.grit(5);
        x.set(30);
        x.blow(0, 9);
        x.blow(1, 9);
        c.cells(x, "heights: 9 by 9, and 1; twice", 2, 28, 26, -5, -5);
        c.due("both are lost", x.years(1, 0), 2);
        c.cells(x, "lost: kinds", 0, NONE, NONE, NONE, NONE);
        c.cells(x, "lost: sizes", 1, 0, 0, 0, 0);
        c.cells(x, "lost: heights", 2, 23, 21, -5, -5);
        c.cells(x, "lost: seats", 3, 0, 0, 0, 0);
        c.cells(x, "lost: joints", 4, 0, 0, 0, 0);
        c.due("none is lost twice", x.years(20, 10), 0);
        RammedCobbles dry = Checks.streetOf("k9l1k9/k9k9k9", "0x99,0x99,0x99,0x99,0x99,0x99");
        dry.grit(9);
        c.due("lost among kerbs: 342 above 20 and 180", dry.years(1, 0), 1);
        c.cells(dry, "neither in water nor beside sand: joints", 4, 8, 0, 8, 9, 8, 9);
        RammedCobbles y = Checks.streetOf("s1./..", "0x99");
        y.grit(9);
        y.ram(1, 40, 0);
        y.years(1, 0);
        c.due("wear 99 of 110: seat", y.cell(0, 3), 40);
        c.due("wear 99 of 110: joint beside sand", y.cell(0, 4), 8);
        y.years(1, 0);
        c.due("wear 99 of 100: seat", y.cell(0, 3), 40);
        y.years(1, 0);
        c.due("wear 99 of 90: loose", y.cell(0, 0), 2);
        c.due("wear 99 of 90: seat", y.cell(0, 3), 0);
        c.due("wear 99 of 90: joint", y.cell(0, 4), 6);
    }

    /** "(a KERB stays)". */
    private static void kerbStays() {
        RammedCobbles x = Checks.streetOf("k1./..", "0x99,0x99,0x99,0x99,0x99,0x99");
        c.due("a kerb below 594", x.years(20, 10), 0);
        c.cells(x, "a kerb: kinds", 0, 4, NONE, NONE, NONE);
        c.cells(x, "a kerb: heights", 2, 0, -5, -5, -5);
        c.due("a kerb: its size", x.cell(0, 1), 1);
    }

    /** "JOINT (0 to 9)", "(0 at least)": by water alone, by sand alone, by both at once. */
    private static void jointsNotBelowZero() {
        for (int joint = 0; joint <= 3; joint++) {
            RammedCobbles wet = basin();
            wet.grit(joint);
            wet.years(1, 0);
            c.due("in water from " + joint, wet.cell(4, 4), Math.max(0, joint - 1));
            c.due("out of it from " + joint, wet.cell(1, 4), joint);
            RammedCobbles dry = Checks.streetOf(ALONE, NO_LOADS);
            dry.grit(joint);
            dry.years(1, 0);
            c.due("beside sand twice from " + joint, dry.cell(0, 4), Math.max(0, joint - 1));
            RammedCobbles both = Checks.streetOf("k9k9k9k9/k9s9.k9/k9k9k9k9", NO_LOADS);
            both.blow(5, 99);
            both.grit(joint);
            both.years(1, 0);
            c.due("in water and beside sand from " + joint, both.cell(5, 4), Math.max(0, joint - 2));
            c.due("a kerb beside sand from " + joint, both.cell(7, 4), Math.max(0, joint - 1));
            c.due("sand in water from " + joint, both.cell(6, 4), 0);
        }
    }

    /** The end of a ROW is not BESIDE the first CELL of the next one; nor are those across a corner. */
    private static void besideSandAtTheRim() {
        RammedCobbles x = Checks.streetOf("s9s9s9/.s9s9/s9s9s9", NO_LOADS);
        x.grit(5);
        x.years(1, 0);
        c.cells(x, "beside sand at the left", 4, 4, 5, 5, 0, 4, 5, 4, 5, 5);
        RammedCobbles y = Checks.streetOf("s9s9s9/s9s9./s9s9s9", NO_LOADS);
        y.grit(5);
        y.years(1, 0);
        c.cells(y, "beside sand at the right", 4, 5, 5, 4, 5, 4, 0, 5, 5, 4);
    }

    // ---- promise 25

    /** "size (1 to 9)"; "SAND becomes an ODD one of a SIZE", "a LOOSE, a TILTED one a STONE of its SIZE". */
    private static void sizesToMend() {
        for (int size = 1; size <= 9; size++) {
            RammedCobbles x = Checks.streetOf(".l3/t7.");
            x.set(9);
            x.grit(6);
            x.blow(1, 9);
            x.blow(2, 9);
            c.due("mend sand, size " + size, x.mend(0, size), 1);
            c.due("mend a loose one, size " + size, x.mend(1, size), 0);
            c.due("mend a tilted one, size " + size, x.mend(2, size), 0);
            c.cells(x, "mended: kinds", 0, 1, 0, 0, NONE);
            c.cells(x, "mended: sizes", 1, size, 3, 7, 0);
            c.cells(x, "mended: heights", 2, 0, 0, 0, -5);
            c.cells(x, "mended: seats", 3, 0, 0, 0, 0);
        }
        RammedCobbles x = Checks.streetOf(".l3/t7k1");
        for (int size : new int[] {LEAST, -1, 0, 10, GREATEST}) {
            for (int cell = 0; cell < 4; cell++) {
                int at = cell;
                c.refuses(x, "mend(" + cell + ", " + size + ")", () -> x.mend(at, size), OUTSIDE);
            }
            c.refuses(x, "mend(4, " + size + "): UNKNOWN is told first", () -> x.mend(4, size), UNKNOWN);
            c.refuses(x, "mend(-1, " + size + "): UNKNOWN is told first", () -> x.mend(-1, size), UNKNOWN);
        }
    }

    /** "STATE: it is none that can be": and what has been MENDED can not be once more. */
    private static void whatCanBeMended() {
        RammedCobbles x = Checks.streetOf("s1o2/k3.");
        for (int cell = 0; cell < 3; cell++) {
            for (int size = 1; size <= 9; size += 8) {
                int at = cell;
                int by = size;
                c.refuses(x, "mend(" + cell + ", " + size + ")", () -> x.mend(at, by), STATE);
            }
        }
        c.due("sand", x.mend(3, 9), 1);
        c.refuses(x, "sand once more", () -> x.mend(3, 9), STATE);
        RammedCobbles lost = Checks.streetOf("l1./..", "0x99");
        lost.set(20);
        lost.years(1, 0);
        c.due("lost: its height", lost.cell(0, 2), 15);
        c.due("what was lost can be mended", lost.mend(0, 4), 1);
        c.due("its height then", lost.cell(0, 2), 0);
        c.due("its size then", lost.cell(0, 1), 4);
    }

    // ---- promise 26

    /**
     * Four loose ones with SIZE 1 below 198 are LOST in a year, each that is not MENDED; those ahead of them are not.
     * Their bits are 4 to 7 of eight.
     */
    private static RammedCobbles fourOfEight(String below) {
        return Checks.streetOf("l9l9l9l9k9k9/l1l1l1l1k9k9" + below, "1x99,1x99");
    }

    private static final int[] SETS = {16, 48, 112, 240};

    /** "k (1 to 4)", "what = 0 the set, as bits, 1 how many are LOST then"; "of like ones of least bits". */
    private static void firstOfOneToFour() {
        RammedCobbles x = fourOfEight("");
        c.due("lost, if none is mended", x.would(1, 0), 4);
        for (int k = 1; k <= 4; k++) {
            long before = x.digest();
            c.due("first(" + k + ", 1, 0, 0)", x.first(k, 1, 0, 0), SETS[k - 1]);
            c.due("first(" + k + ", 1, 0, 1)", x.first(k, 1, 0, 1), 4 - k);
            // Of what the digest tells, count(7) comes last: all else is as before.
            c.due("first() was done twice more, and nothing else", x.digest(), before + 2);
        }
        RammedCobbles none = Checks.streetOf("../..", NO_LOADS);
        for (int k = 1; k <= 4; k++) {
            c.due("all alike: first(" + k + ", 20, 10, 0)", none.first(k, 20, 10, 0), (1 << k) - 1);
            c.due("all alike: first(" + k + ", 20, 10, 1)", none.first(k, 20, 10, 1), 0);
        }
        for (int k : new int[] {LEAST, -1, 0, 5, GREATEST}) {
            c.refuses(x, "first(" + k + ", 1, 0, 0)", () -> x.first(k, 1, 0, 0), OUTSIDE);
        }
        for (int years : new int[] {LEAST, -1, 0, 21, GREATEST}) {
            c.refuses(x, "first(1, " + years + ", 0, 0)", () -> x.first(1, years, 0, 0), OUTSIDE);
        }
        for (int frost : new int[] {LEAST, -1, 11, GREATEST}) {
            c.refuses(x, "first(1, 1, " + frost + ", 0)", () -> x.first(1, 1, frost, 0), OUTSIDE);
        }
        for (int what : new int[] {LEAST, -1, 2, GREATEST}) {
            c.refuses(x, "first(1, 1, 0, " + what + ")", () -> x.first(1, 1, 0, what), OUTSIDE);
        }
    }

    /** "of the first eight CELLS that can be MENDED (by number)": the ninth and those behind it are not looked at. */
    private static void firstOfTheFirstEight() {
        RammedCobbles x = fourOfEight("/....k1k1");
        for (int k = 1; k <= 4; k++) {
            c.due("twelve: first(" + k + ", 1, 0, 0)", x.first(k, 1, 0, 0), SETS[k - 1]);
        }
        // The first of five that would be lost is the eighth here, the others are the ninth to the twelfth.
        RammedCobbles y = Checks.streetOf("l9l9l9l9l9l9/l9l1l1l1l1l1", "1x90,1x90");
        c.due("lost, if none is mended", y.would(1, 0), 5);
        c.due("one of them is the eighth", y.first(1, 1, 0, 0), 128);
        c.due("four are lost then", y.first(1, 1, 0, 1), 4);
        c.due("no more than that one helps", y.first(4, 1, 0, 0), 128 + 7);
        c.due("four are lost yet", y.first(4, 1, 0, 1), 4);
        RammedCobbles sand = Checks.streetOf("....../....../....../....../......", "0x99");
        c.due("thirty: the least bits", sand.first(4, 20, 10, 0), 15);
    }

    /** "(bit 0: the first of these)"; "SAND with SIZE 5": alone it bears 100, and is LOST in two years by 101. */
    private static void firstByBitsAndSize() {
        RammedCobbles bits = Checks.streetOf("l1l9/..", "0x50");
        c.due("lost, if none is mended", bits.would(1, 0), 1);
        c.due("bit 0 alone helps", bits.first(1, 1, 0, 0), 1);
        c.due("none is lost by it", bits.first(1, 1, 0, 1), 0);
        RammedCobbles bears = Checks.streetOf("../..", "0x50,0x50,1x50,1x50");
        c.due("wear 100 of 100", bears.first(1, 20, 0, 1), 0);
        RammedCobbles breaks = Checks.streetOf("../..", "0x50,0x51,1x51,1x50");
        c.due("wear 101 of 100, one year", breaks.first(1, 1, 0, 1), 0);
        c.due("wear 101 of 100, two years", breaks.first(1, 2, 0, 1), 1);
        c.due("of like ones", breaks.first(1, 2, 0, 0), 1);
    }

    /** "STATE: fewer than k can be MENDED". */
    private static void firstOfAsManyAsThereAre() {
        String[] texts = {"s1o2/k3s4", "s1o2/k3.", "s1o2/l3.", "s1t2/l3.", ".t2/l3."};
        for (int many = 0; many < texts.length; many++) {
            RammedCobbles x = Checks.streetOf(texts[many], NO_LOADS);
            for (int k = 1; k <= 4; k++) {
                int of = k;
                String told = "first(" + k + ", 1, 0, 0) of " + many;
                if (k > many) {
                    c.refuses(x, told, () -> x.first(of, 1, 0, 0), STATE);
                    c.refuses(x, told + ": OUTSIDE is told ahead", () -> x.first(of, 1, 0, 2), OUTSIDE);
                } else {
                    c.due(told, x.first(k, 1, 0, 0), (1 << k) - 1);
                }
            }
            c.due("done of " + many, x.count(7), many);
        }
        RammedCobbles full = Checks.streetOf("k1k1k1k1k1k1/k1k1k1k1k1k1/k1k1k1k1k1k1/k1k1k1k1k1k1/k1k1k1k1k1t1",
                NO_LOADS);
        c.due("the last of thirty alone", full.first(1, 1, 0, 0), 1);
        c.refuses(full, "none but the last of thirty", () -> full.first(2, 1, 0, 0), STATE);
        RammedCobbles smaller = Checks.streetOf(".../...", NO_LOADS);
        Checks.write(smaller, "k1k1/k1k1");
        smaller.street();
        c.refuses(smaller, "none of a smaller street, whatever lay behind it", () -> smaller.first(1, 1, 0, 0), STATE);
    }

    /** "or first() was done 20 times": those that were refused do not count; another STREET does not begin anew. */
    private static void firstTwentyTimes() {
        RammedCobbles x = Checks.streetOf("s1k3/o1.", NO_LOADS);
        for (int i = 1; i <= 20; i++) {
            c.refuses(x, "first(2, ..) of one", () -> x.first(2, 1, 0, 0), STATE);
            c.refuses(x, "first(1, 21, ..)", () -> x.first(1, 21, 0, 0), OUTSIDE);
            c.due("first, time " + i, x.first(1, 1, 0, i % 2), 1 - i % 2);
            c.due("done", x.count(7), i);
        }
        c.refuses(x, "first, time 21", () -> x.first(1, 1, 0, 0), STATE);
        c.refuses(x, "first, time 21: OUTSIDE is told ahead", () -> x.first(5, 1, 0, 0), OUTSIDE);
        x.image();
        x.restore();
        c.refuses(x, "first, restored", () -> x.first(1, 1, 0, 0), STATE);
        Checks.write(x, "../..");
        x.street();
        c.refuses(x, "first, another street", () -> x.first(1, 1, 0, 0), STATE);
        c.due("first, done 20 times", x.count(7), 20);
    }

    /** Three that can be MENDED below the rim, among STONES and ODD ones there whose draws decide what is LOST. */
    private static RammedCobbles hollow(int seed) {
        RammedCobbles x = Checks.streetOf("k9k9k9k9k9/k9s1l2s1k9/k9o1s1t1k9/k9l1s2o1k9/k9k9k9k9k9", "1x60,2x60,3x60");
        x.ram(40, 2, 0);
        x.grit(3);
        x.seed(seed);
        return x;
    }

    /**
     * "that by which least are LOST in so many YEARS from now": each set begins with THE STREET and THE SEED of now,
     * whatever was drawn for the sets ahead of it, and THE SEED of now stays. Due is what mend() and would() tell.
     */
    private static void firstFromNow() {
        for (int k = 1; k <= 2; k++) {
            TreeSet<Integer> told = new TreeSet<>();
            for (int seed = 0; seed < 40; seed++) {
                int[] due = firstByTrying(seed, k, 4, 3);
                RammedCobbles x = hollow(seed);
                c.due("first(" + k + ", 4, 3, 0) by seed " + seed, x.first(k, 4, 3, 0), due[0]);
                c.due("first(" + k + ", 4, 3, 1) by seed " + seed, x.first(k, 4, 3, 1), due[1]);
                c.due("the seed stays " + seed, x.count(5), seed);
                told.add(due[0]);
            }
            c.due("draws decide which set it is, k " + k, told.size() == 3 ? 1 : 0, 1);
        }
    }

    /** The set of k and how many are LOST by it, each set MENDED and asked in turn. */
    private static int[] firstByTrying(int seed, int k, int years, int frost) {
        int[] mendable = {7, 13, 16};
        int[] best = {NONE, GREATEST};
        for (int bits = 1; bits < 8; bits++) {
            RammedCobbles x = hollow(seed);
            for (int i = 0; i < 3; i++) {
                if ((bits & 1 << i) != 0) {
                    c.due("mend(" + mendable[i] + ", 5)", x.mend(mendable[i], 5), 0);
                }
            }
            int lost = x.would(years, frost);
            if (Integer.bitCount(bits) == k && lost < best[1]) {
                best = new int[] {bits, lost};
            }
        }
        return best;
    }
}
