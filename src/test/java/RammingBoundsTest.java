/** The bounds that the document names for ramming (promises 10 to 18). */
public final class RammingBoundsTest {
    private static final int NONE = -1, UNKNOWN = -101, OUTSIDE = -102, STATE = -103;
    /** One stone that nothing holds. */
    private static final String ALONE = "s1./..";
    private static final Checks c = new Checks("RammingBoundsTest");

    public static void main(String[] args) {
        heightsToSet();
        setOfNoStones();
        joints();
        sinkOfEachWeight();
        sinkOfLooseAndTilted();
        sinkByHold();
        kerbNeverSinks();
        seatsUpTo99();
        seatsThatTurnKinds();
        blowsOnNothing();
        roundsToRam();
        ordersToRam();
        ordersOfNine();
        ordersOfEight();
        ramOfNoStones();
        ringsJustBelow();
        ringsOfNoneAndAll();
        proudOfNoRoundsAndForty();
        untilNoneAndMost();
        unevenOfFew();
        evenestOfNoRoundsAndForty();
        withoutAStreet();
        c.end();
    }

    // ---- promise 10

    /** "OUTSIDE: height (0 to 40)"; "All stones have that HEIGHT, SEAT 0". */
    private static void heightsToSet() {
        RammedCobbles x = Checks.streetOf("s1o2l3/t4k5.");
        x.grit(2);
        for (int height : new int[] {0, 1, 39, 40}) {
            x.blow(0, 99);
            x.blow(3, 9);
            c.due("set(" + height + ")", x.set(height), 5);
            c.cells(x, "set: heights", 2, height, height, height, height, height, -5);
            c.cells(x, "set: seats", 3, 0, 0, 0, 0, 0, 0);
            c.cells(x, "set: joints stay", 4, 2, 2, 2, 2, 2, 0);
        }
        x.blow(0, 99);
        for (int height : new int[] {Integer.MIN_VALUE, -1, 41, Integer.MAX_VALUE}) {
            c.refuses(x, "set(" + height + ")", () -> x.set(height), OUTSIDE);
        }
    }

    private static void setOfNoStones() {
        RammedCobbles x = Checks.streetOf("../..");
        c.looks(x, "set(40) of sand", () -> x.set(40), 0);
        c.looks(x, "grit(9) of sand", () -> x.grit(9), 0);
        c.cells(x, "sand: heights", 2, -5, -5, -5, -5);
        c.cells(x, "sand: joints", 4, 0, 0, 0, 0);
    }

    // ---- promise 11

    /** "JOINT (0 to 9)". */
    private static void joints() {
        RammedCobbles x = Checks.streetOf("s1o2l3/t4k5.");
        for (int v : new int[] {9, 1, 8, 0}) {
            c.due("grit(" + v + ")", x.grit(v), 5);
            c.cells(x, "grit: joints", 4, v, v, v, v, v, 0);
        }
        x.grit(9);
        for (int v : new int[] {Integer.MIN_VALUE, -1, 10, Integer.MAX_VALUE}) {
            c.refuses(x, "grit(" + v + ")", () -> x.grit(v), OUTSIDE);
        }
    }

    // ---- promise 12

    /** "WEIGHT (1 to 99)"; "by WEIGHT by (4 and HOLD and SEAT), rounded down". */
    private static void sinkOfEachWeight() {
        for (int weight = 1; weight <= 99; weight++) {
            RammedCobbles x = Checks.streetOf(ALONE);
            c.due("blow(0, " + weight + ") by 4", x.blow(0, weight), weight / 4);
            c.due("its height", x.cell(0, 2), -(weight / 4));
            c.due("its seat", x.cell(0, 3), 1);
            c.due("blow(0, " + weight + ") by 5", x.blow(0, weight), weight / 5);
        }
        RammedCobbles x = Checks.streetOf(ALONE);
        for (int weight : new int[] {Integer.MIN_VALUE, -1, 0, 100, Integer.MAX_VALUE}) {
            c.refuses(x, "blow(0, " + weight + ")", () -> x.blow(0, weight), OUTSIDE);
        }
    }

    /** "a LOOSE by 1 more, a TILTED by twice what a LOOSE would". */
    private static void sinkOfLooseAndTilted() {
        int[] weights = {1, 3, 4, 7, 8, 99};
        int[] loose = {1, 1, 2, 2, 3, 25};
        for (int i = 0; i < weights.length; i++) {
            RammedCobbles x = Checks.streetOf("l1./.t1");
            c.due("a loose one by " + weights[i], x.blow(0, weights[i]), loose[i]);
            c.due("a tilted one by " + weights[i], x.blow(3, weights[i]), 2 * loose[i]);
            c.due("a loose one's height", x.cell(0, 2), -loose[i]);
            c.due("a tilted one's height", x.cell(3, 2), -2 * loose[i]);
        }
    }

    /** HOLD 21 at most: 99 by 25. */
    private static void sinkByHold() {
        RammedCobbles x = Checks.streetOf("k1k1k1/k1s1k1/k1k1k1");
        x.grit(9);
        c.due("24 by 25", x.blow(4, 24), 0);
        c.due("26 by 26", x.blow(4, 26), 1);
        x.set(0);
        c.due("25 by 25", x.blow(4, 25), 1);
        x.set(0);
        c.due("99 by 25", x.blow(4, 99), 3);
        RammedCobbles tilted = Checks.streetOf("k1k1k1/k1t1k1/k1k1k1");
        tilted.grit(9);
        c.due("a tilted one: twice 99 by 25, and 1", tilted.blow(4, 99), 8);
    }

    /** "a KERB does not"; "(a KERB gets no SEAT)". */
    private static void kerbNeverSinks() {
        RammedCobbles x = Checks.streetOf("k1./..");
        for (int weight : new int[] {1, 4, 99}) {
            c.looks(x, "blow(0, " + weight + ") on a kerb", () -> x.blow(0, weight), 0);
        }
        c.looks(x, "ram(99, 40, 3) of a kerb", () -> x.ram(99, 40, 3), 0);
        c.due("its height", x.cell(0, 2), 0);
        c.due("its seat", x.cell(0, 3), 0);
    }

    /** "Its SEAT is 1 more then (99 at most)". */
    private static void seatsUpTo99() {
        RammedCobbles x = Checks.streetOf("s1./.o1");
        x.ram(1, 40, 0);
        x.ram(1, 40, 0);
        for (int seat = 80; seat < 98; seat++) {
            x.blow(0, 1);
            x.blow(3, 1);
        }
        c.cells(x, "seats of 98", 3, 98, 0, 0, 98);
        c.due("99 by 102 rings, and seats", x.blow(0, 99), 0);
        c.cells(x, "a seat of 99", 3, 99, 0, 0, 98);
        c.due("99 by 103 rings", x.blow(0, 99), 0);
        c.cells(x, "99 at most", 3, 99, 0, 0, 98);
        x.ram(1, 40, 1);
        c.cells(x, "99 at most by ram", 3, 99, 0, 0, 99);
        c.cells(x, "kinds stay", 0, 0, NONE, NONE, 1);
        c.cells(x, "heights stay", 2, 0, -5, -5, 0);
    }

    /** "a TILTED with SEAT 2 becomes LOOSE, a LOOSE with SEAT 4 a STONE": the blow before it does not. */
    private static void seatsThatTurnKinds() {
        RammedCobbles x = Checks.streetOf("t7o3/..");
        int[] kinds = {3, 2, 2, 0, 0, 0};
        int[] sinks = {2, 2, 1, 1, 0, 0};
        for (int i = 0; i < kinds.length; i++) {
            c.due("blow " + (i + 1) + " sinks", x.blow(0, 1), sinks[i]);
            c.due("blow " + (i + 1) + " makes it", x.cell(0, 0), kinds[i]);
            c.due("blow " + (i + 1) + " seats it", x.cell(0, 3), i + 1);
            c.due("hold beside it behind blow " + (i + 1), x.cell(1, 5), kinds[i] == 0 ? 2 : 0);
        }
        c.due("its size stays", x.cell(0, 1), 7);
        for (int i = 0; i < 5; i++) {
            x.blow(1, 1);
            c.due("an odd one stays odd with seat " + (i + 1), x.cell(1, 0), 1);
        }
        RammedCobbles loose = Checks.streetOf("l4./..");
        for (int i = 1; i <= 3; i++) {
            loose.blow(0, 1);
            c.due("a loose one with seat " + i, loose.cell(0, 0), 2);
        }
        loose.set(0);
        c.due("set() takes the seat, not the kind", loose.cell(0, 0), 2);
        for (int i = 1; i <= 4; i++) {
            loose.blow(0, 1);
            c.due("again a loose one with seat " + i, loose.cell(0, 0), i == 4 ? 0 : 2);
        }
    }

    /** "UNKNOWN: cell (SAND, too)"; it is told ahead of OUTSIDE. */
    private static void blowsOnNothing() {
        RammedCobbles x = Checks.streetOf(ALONE);
        for (int cell : new int[] {Integer.MIN_VALUE, -1, 1, 2, 3, 4, 29, 30, Integer.MAX_VALUE}) {
            for (int weight : new int[] {1, 99, 0, 100}) {
                c.refuses(x, "blow(" + cell + ", " + weight + ")", () -> x.blow(cell, weight), UNKNOWN);
                c.refuses(x, "proud(" + cell + ", " + weight + ", ..)", () -> x.proud(cell, weight, 41, 4), UNKNOWN);
            }
        }
    }

    // ---- promise 13

    /** What a stone that nothing holds sinks by in ROUNDS, SEAT by SEAT. */
    private static int sinkAlone(int weight, int seat, int rounds) {
        int sum = 0;
        for (int i = 0; i < rounds; i++) {
            sum += weight / (4 + seat + i);
        }
        return sum;
    }

    /** "rounds (1 to 40)". */
    private static void roundsToRam() {
        for (int rounds : new int[] {1, 2, 39, 40}) {
            RammedCobbles x = Checks.streetOf(ALONE);
            c.due("ram(99, " + rounds + ", 0)", x.ram(99, rounds, 0), sinkAlone(99, 0, rounds));
            c.due("its height", x.cell(0, 2), -sinkAlone(99, 0, rounds));
            c.due("its seat", x.cell(0, 3), rounds);
            c.due("then once more", x.ram(99, 1, 0), sinkAlone(99, rounds, 1));
        }
        RammedCobbles x = Checks.streetOf(ALONE);
        c.due("ram(99, 40, 0) by hand", x.ram(99, 40, 0), 230);
        c.due("ram(1, 1, 0)", x.ram(1, 1, 0), 0);
        for (int rounds : new int[] {Integer.MIN_VALUE, -1, 0, 41, Integer.MAX_VALUE}) {
            c.refuses(x, "ram(1, " + rounds + ", 0)", () -> x.ram(1, rounds, 0), OUTSIDE);
        }
        for (int weight : new int[] {Integer.MIN_VALUE, -1, 0, 100, Integer.MAX_VALUE}) {
            c.refuses(x, "ram(" + weight + ", 1, 0)", () -> x.ram(weight, 1, 0), OUTSIDE);
        }
    }

    /**
     * "0 row by row, 1 the last CELL first, 2 column by column, 3 the CELLS of even numbers first, then the others":
     * six loose ones with SEAT 3. Each becomes a STONE by its BLOW and holds those beside it that come behind it:
     * 84 by 7, 9, 11 or 13, and 1, with 0, 1, 2 or 3 of them ahead of it.
     */
    private static void ordersToRam() {
        int[][] sinks = {{13, 10, 10, 10, 8, 8}, {8, 8, 10, 10, 10, 13}, {13, 10, 10, 10, 8, 8},
            {13, 7, 13, 8, 13, 8}};
        int[] all = {59, 59, 59, 62};
        for (int order = 0; order < 4; order++) {
            RammedCobbles x = Checks.streetOf("l1l1l1/l1l1l1");
            c.due("ram(1, 3, " + order + ")", x.ram(1, 3, order), 18);
            c.due("ram(84, 1, " + order + ")", x.ram(84, 1, order), all[order]);
            for (int cell = 0; cell < 6; cell++) {
                c.due("order " + order + ": height of " + cell, x.cell(cell, 2), -3 - sinks[order][cell]);
                c.due("order " + order + ": kind of " + cell, x.cell(cell, 0), 0);
                c.due("order " + order + ": seat of " + cell, x.cell(cell, 3), 4);
            }
        }
        RammedCobbles x = Checks.streetOf("l1l1l1/l1l1l1");
        for (int order : new int[] {Integer.MIN_VALUE, -1, 4, Integer.MAX_VALUE}) {
            c.refuses(x, "ram(1, 1, " + order + ")", () -> x.ram(1, 1, order), OUTSIDE);
            c.refuses(x, "proud(0, 1, 1, " + order + ")", () -> x.proud(0, 1, 1, order), OUTSIDE);
            c.refuses(x, "until(1, " + order + ")", () -> x.until(1, order), OUTSIDE);
        }
    }

    /** The same with nine: behind the five CELLS of even numbers come four, each beside three of them. */
    private static void ordersOfNine() {
        int[][] sinks = {{13, 10, 10, 10, 8, 8, 10, 8, 8}, {8, 8, 10, 8, 8, 10, 10, 10, 13},
            {13, 10, 10, 10, 8, 8, 10, 8, 8}, {13, 7, 13, 7, 13, 7, 13, 7, 13}};
        int[] all = {85, 85, 85, 93};
        for (int order = 0; order < 4; order++) {
            RammedCobbles x = Checks.streetOf("l1l1l1/l1l1l1/l1l1l1");
            c.due("nine: ram(1, 3, " + order + ")", x.ram(1, 3, order), 27);
            c.due("nine: ram(84, 1, " + order + ")", x.ram(84, 1, order), all[order]);
            for (int cell = 0; cell < 9; cell++) {
                c.due("nine, order " + order + ": height of " + cell, x.cell(cell, 2), -3 - sinks[order][cell]);
                c.due("nine, order " + order + ": seat of " + cell, x.cell(cell, 3), 4);
            }
        }
    }

    /**
     * The same with ROWS of four: CELLS of even numbers lie one above the other here, and so do the others, so that each
     * of both sorts, by number, holds the one below it.
     */
    private static void ordersOfEight() {
        int[][] sinks = {{13, 10, 10, 10, 10, 8, 8, 8}, {8, 8, 8, 10, 10, 10, 10, 13}, {13, 10, 10, 10, 10, 8, 8, 8},
            {13, 8, 13, 10, 10, 7, 10, 8}};
        int[] all = {77, 77, 77, 79};
        for (int order = 0; order < 4; order++) {
            RammedCobbles x = Checks.streetOf("l1l1l1l1/l1l1l1l1");
            c.due("eight: ram(1, 3, " + order + ")", x.ram(1, 3, order), 24);
            c.due("eight: ram(84, 1, " + order + ")", x.ram(84, 1, order), all[order]);
            for (int cell = 0; cell < 8; cell++) {
                c.due("eight, order " + order + ": height of " + cell, x.cell(cell, 2), -3 - sinks[order][cell]);
            }
        }
    }

    private static void ramOfNoStones() {
        RammedCobbles x = Checks.streetOf("../..");
        for (int order = 0; order < 4; order++) {
            int by = order;
            c.looks(x, "ram(99, 40, " + order + ") of sand", () -> x.ram(99, 40, by), 0);
        }
    }

    // ---- promise 14

    /** "It RINGS, if a BLOW would not let it SINK": by a WEIGHT 1 below what is due, and no longer by that. */
    private static void ringsJustBelow() {
        RammedCobbles x = Checks.streetOf(ALONE);
        for (int seat = 0; seat < 96; seat++) {
            int due = 4 + seat;
            c.due("rings(" + (due - 1) + ") with seat " + seat, x.rings(due - 1), 1);
            c.due("rings(" + due + ") with seat " + seat, x.rings(due), 0);
            x.blow(0, 1);
        }
        c.looks(x, "rings(99) with seat 96", () -> x.rings(99), 1);
        RammedCobbles held = Checks.streetOf("k1k1k1/k1o1k1/k1k1k1");
        held.grit(9);
        c.looks(held, "rings(24) with hold 21", () -> held.rings(24), 9);
        c.looks(held, "rings(25) with hold 21", () -> held.rings(25), 8);
        for (int weight : new int[] {Integer.MIN_VALUE, -1, 0, 100, Integer.MAX_VALUE}) {
            c.refuses(x, "rings(" + weight + ")", () -> x.rings(weight), OUTSIDE);
        }
    }

    private static void ringsOfNoneAndAll() {
        RammedCobbles sand = Checks.streetOf("../..");
        c.looks(sand, "rings(1) of sand", () -> sand.rings(1), 0);
        RammedCobbles kerbs = Checks.streetOf("k1k2/k3k4");
        c.looks(kerbs, "rings(99) of kerbs", () -> kerbs.rings(99), 4);
        RammedCobbles loose = Checks.streetOf("l1t2/t3l4");
        loose.grit(9);
        c.looks(loose, "rings(1) of loose and tilted ones", () -> loose.rings(1), 0);
        RammedCobbles stones = Checks.streetOf("s1o2/o3s4");
        c.looks(stones, "rings(3) of stones", () -> stones.rings(3), 4);
    }

    // ---- promise 15

    /** "rounds (0 to 40)": of none it is 0; of 40 it is what ram() would do. */
    private static void proudOfNoRoundsAndForty() {
        RammedCobbles x = Checks.streetOf("s1./.k1");
        c.looks(x, "proud(0, 99, 0, 0)", () -> x.proud(0, 99, 0, 0), 0);
        c.looks(x, "proud(0, 99, 1, 3)", () -> x.proud(0, 99, 1, 3), 24);
        c.looks(x, "proud(0, 99, 40, 0)", () -> x.proud(0, 99, 40, 0), 230);
        c.looks(x, "proud(0, 1, 40, 0)", () -> x.proud(0, 1, 40, 0), 0);
        c.looks(x, "proud of a kerb", () -> x.proud(3, 99, 40, 0), 0);
        x.set(40);
        x.blow(0, 99);
        c.looks(x, "proud from now", () -> x.proud(0, 99, 40, 3), sinkAlone(99, 1, 40));
        for (int rounds : new int[] {Integer.MIN_VALUE, -1, 41, Integer.MAX_VALUE}) {
            c.refuses(x, "proud(0, 1, " + rounds + ", 0)", () -> x.proud(0, 1, rounds, 0), OUTSIDE);
            c.refuses(x, "evenest(1, " + rounds + ")", () -> x.evenest(1, rounds), OUTSIDE);
        }
        for (int weight : new int[] {Integer.MIN_VALUE, -1, 0, 100, Integer.MAX_VALUE}) {
            c.refuses(x, "proud(0, " + weight + ", 0, 0)", () -> x.proud(0, weight, 0, 0), OUTSIDE);
            c.refuses(x, "until(" + weight + ", 0)", () -> x.until(weight, 0), OUTSIDE);
            c.refuses(x, "evenest(" + weight + ", 0)", () -> x.evenest(weight, 0), OUTSIDE);
        }
    }

    // ---- promise 16

    /** "Behind how many ROUNDS from now (0 to 99)": 0 where all ring now, 96 at most (99 by 4 and 96). */
    private static void untilNoneAndMost() {
        for (int order = 0; order < 4; order++) {
            int by = order;
            RammedCobbles sand = Checks.streetOf("../..");
            c.looks(sand, "until(99, ..) of sand", () -> sand.until(99, by), 0);
            RammedCobbles kerbs = Checks.streetOf("k1k1/k1k1");
            c.looks(kerbs, "until(99, ..) of kerbs", () -> kerbs.until(99, by), 0);
            RammedCobbles x = Checks.streetOf("s1./.t1");
            c.looks(x, "until(1, ..): a tilted one is a stone behind 4", () -> x.until(1, by), 4);
            c.looks(x, "until(99, ..)", () -> x.until(99, by), 96);
            x.ram(1, 40, order);
            c.looks(x, "until(99, ..) with seat 40", () -> x.until(99, by), 56);
            c.looks(x, "until(44, ..) with seat 40", () -> x.until(44, by), 1);
            c.looks(x, "until(43, ..) with seat 40", () -> x.until(43, by), 0);
            x.ram(1, 40, order);
            x.ram(1, 40, order);
            c.looks(x, "until(99, ..) with seat 99", () -> x.until(99, by), 0);
        }
    }

    // ---- promise 17

    /** "(0: there are none)"; one stone is as high as itself; SAND does not count. */
    private static void unevenOfFew() {
        RammedCobbles sand = Checks.streetOf("../..");
        c.looks(sand, "uneven of sand", sand::uneven, 0);
        RammedCobbles one = Checks.streetOf(ALONE);
        c.looks(one, "uneven of one", one::uneven, 0);
        one.set(40);
        c.looks(one, "uneven of one, 40 high", one::uneven, 0);
        one.ram(99, 40, 0);
        c.looks(one, "uneven of one, far below", one::uneven, 0);
        RammedCobbles two = Checks.streetOf("s1./.k1");
        two.ram(99, 40, 0);
        c.looks(two, "uneven of two", two::uneven, 230);
        two.set(40);
        c.looks(two, "uneven of two as high", two::uneven, 0);
        two.blow(0, 4);
        c.looks(two, "uneven of two, both above 0", two::uneven, 1);
    }

    // ---- promise 18

    /** "rounds (0 to 40)"; "of like ones the least". */
    private static void evenestOfNoRoundsAndForty() {
        // The stone at the left sinks by 44 if it comes behind the loose one (orders 1 and 3), else by 46.
        RammedCobbles x = Checks.streetOf(".../s1l1.");
        c.looks(x, "evenest(63, 0)", () -> x.evenest(63, 0), 0);
        c.looks(x, "evenest(63, 1)", () -> x.evenest(63, 1), 0);
        c.looks(x, "evenest(63, 4): of 1 and 3 the least", () -> x.evenest(63, 4), 1);
        c.looks(x, "evenest(63, 40)", () -> x.evenest(63, 40), 1);
        c.looks(x, "evenest(1, 40)", () -> x.evenest(1, 40), 0);
        RammedCobbles y = Checks.streetOf(".../s1l1s1");
        c.looks(y, "evenest(63, 40): 3 alone", () -> y.evenest(63, 40), 3);
        RammedCobbles sand = Checks.streetOf("../..");
        c.looks(sand, "evenest(99, 40) of sand", () -> sand.evenest(99, 40), 0);
    }

    // ---- all of them

    /** "STATE: no STREET" is told ahead of OUTSIDE; where UNKNOWN is told, it stands for it. */
    private static void withoutAStreet() {
        RammedCobbles x = new RammedCobbles();
        for (int v : new int[] {Integer.MIN_VALUE, -1, 0, 1, 100, Integer.MAX_VALUE}) {
            c.refuses(x, "set(" + v + ") without a street", () -> x.set(v), STATE);
            c.refuses(x, "grit(" + v + ") without a street", () -> x.grit(v), STATE);
            c.refuses(x, "blow(0, " + v + ") without a street", () -> x.blow(0, v), UNKNOWN);
            c.refuses(x, "blow(" + v + ", 1) without a street", () -> x.blow(v, 1), UNKNOWN);
            c.refuses(x, "ram(" + v + ", 1, 0) without a street", () -> x.ram(v, 1, 0), STATE);
            c.refuses(x, "rings(" + v + ") without a street", () -> x.rings(v), STATE);
            c.refuses(x, "proud(" + v + ", 1, 1, 0) without a street", () -> x.proud(v, 1, 1, 0), UNKNOWN);
            c.refuses(x, "until(" + v + ", 0) without a street", () -> x.until(v, 0), STATE);
            c.refuses(x, "evenest(" + v + ", 0) without a street", () -> x.evenest(v, 0), STATE);
        }
        c.refuses(x, "uneven() without a street", x::uneven, STATE);
    }
}
