/** Promises 10 to 18: HEIGHTS, JOINTS, BLOWS, ROUNDS and ORDERS. */
public final class RammingTest {
    private static final int UNKNOWN = -101, OUTSIDE = -102, STATE = -103;
    private static final Checks c = new Checks("RammingTest");
    /** The loose one in the middle becomes a STONE in round 4 and holds those beside it from then on. */
    private static final String MIDDLE = ".../s1l1s1";

    public static void main(String[] args) {
        set();
        grit();
        blowOnStones();
        blowOnLoose();
        blowSeatsAtMost99();
        blowRefusals();
        ram();
        rings();
        proud();
        until();
        uneven();
        evenest();
        withoutAStreet();
        c.end();
    }

    private static void set() {
        RammedCobbles x = Checks.streetOf("s1k2/t3.");
        x.grit(3);
        x.blow(0, 50);
        x.blow(2, 50);
        c.due("set(7)", x.set(7), 3);
        c.cells(x, "set: heights", 2, 7, 7, 7, -5);
        c.cells(x, "set: seats", 3, 0, 0, 0, 0);
        c.cells(x, "set: joints stay", 4, 3, 3, 3, 0);
        c.cells(x, "set: kinds stay", 0, 0, 4, 3, -1);
        c.due("set(0)", x.set(0), 3);
        c.due("set(40)", x.set(40), 3);
        c.due("set(40): height", x.cell(1, 2), 40);
        c.refuses(x, "set(-1)", () -> x.set(-1), OUTSIDE);
        c.refuses(x, "set(41)", () -> x.set(41), OUTSIDE);
    }

    private static void grit() {
        RammedCobbles x = Checks.streetOf("s1k2/t3.");
        c.due("grit(9)", x.grit(9), 3);
        c.cells(x, "grit: joints", 4, 9, 9, 9, 0);
        c.cells(x, "grit: holds", 5, 12, 11, 11, 3);
        c.due("grit(0)", x.grit(0), 3);
        c.cells(x, "grit(0): joints", 4, 0, 0, 0, 0);
        c.refuses(x, "grit(-1)", () -> x.grit(-1), OUTSIDE);
        c.refuses(x, "grit(10)", () -> x.grit(10), OUTSIDE);
    }

    private static void blowOnStones() {
        RammedCobbles x = Checks.streetOf("s1s1/o1k1");
        c.due("hold by a stone and an odd one: 99 by 7", x.blow(0, 99), 14);
        c.due("and seat 1: 99 by 8", x.blow(0, 99), 12);
        c.cells(x, "blow: heights", 2, -26, 0, 0, 0);
        c.cells(x, "blow: seats", 3, 2, 0, 0, 0);
        c.due("an odd one: 27 by 9", x.blow(2, 27), 3);
        c.due("an odd one, just less: 9 by 10", x.blow(2, 9), 0);
        c.due("a blow that rings seats, too", x.cell(2, 3), 2);
        c.due("a kerb", x.blow(3, 99), 0);
        c.due("a kerb gets no seat", x.cell(3, 3), 0);
        x.grit(9);
        c.due("held by grit: 99 by 18", x.blow(0, 99), 5);
        c.due("weight 1", x.blow(1, 1), 0);
    }

    private static void blowOnLoose() {
        RammedCobbles x = Checks.streetOf("t8./..");
        int[] sinks = {4, 2, 1, 1, 0};
        int[] kinds = {3, 2, 2, 0, 0};
        int height = 0;
        for (int i = 0; i < 5; i++) {
            height -= sinks[i];
            c.due("blow " + i + " on a tilted one", x.blow(0, 4), sinks[i]);
            c.due("blow " + i + ": kind", x.cell(0, 0), kinds[i]);
            c.due("blow " + i + ": seat", x.cell(0, 3), i + 1);
            c.due("blow " + i + ": height", x.cell(0, 2), height);
        }
        c.due("its size stays", x.cell(0, 1), 8);
        RammedCobbles y = Checks.streetOf("l1s1/..");
        c.due("a loose one: 99 by 6, and 1", y.blow(0, 99), 17);
        c.due("a loose one holds nothing", y.cell(1, 5), 0);
        y.blow(0, 1);
        y.blow(0, 1);
        c.due("a loose one with seat 3", y.cell(0, 0), 2);
        y.blow(0, 1);
        c.due("a loose one with seat 4", y.cell(0, 0), 0);
        c.due("a stone holds", y.cell(1, 5), 2);
    }

    private static void blowSeatsAtMost99() {
        RammedCobbles x = Checks.streetOf("s1./..");
        int sunk = 0;
        for (int i = 0; i < 120; i++) {
            sunk += x.blow(0, 99);
            c.due("seat behind " + (i + 1) + " blows", x.cell(0, 3), Math.min(99, i + 1));
        }
        c.due("height behind 120 blows", x.cell(0, 2), -sunk);
    }

    private static void blowRefusals() {
        RammedCobbles x = Checks.streetOf("s1./..");
        c.refuses(x, "blow(1, 5) on sand", () -> x.blow(1, 5), UNKNOWN);
        c.refuses(x, "blow(4, 5)", () -> x.blow(4, 5), UNKNOWN);
        c.refuses(x, "blow(-1, 5)", () -> x.blow(-1, 5), UNKNOWN);
        c.refuses(x, "blow(1, 0): UNKNOWN first", () -> x.blow(1, 0), UNKNOWN);
        c.refuses(x, "blow(0, 0)", () -> x.blow(0, 0), OUTSIDE);
        c.refuses(x, "blow(0, 100)", () -> x.blow(0, 100), OUTSIDE);
    }

    private static void ram() {
        int[] all = {119, 119, 119, 117};
        int[][] heights = {{-46, -29, -44}, {-44, -29, -46}, {-46, -29, -44}, {-44, -29, -44}};
        for (int order = 0; order < 4; order++) {
            RammedCobbles x = Checks.streetOf(MIDDLE);
            c.due("ram(63, 4, " + order + ")", x.ram(63, 4, order), all[order]);
            int[] h = heights[order];
            c.cells(x, "ram by order " + order, 2, -5, -5, -5, h[0], h[1], h[2]);
            c.cells(x, "ram: seats", 3, 0, 0, 0, 4, 4, 4);
            c.cells(x, "ram: kinds", 0, -1, -1, -1, 0, 0, 0);
        }
        RammedCobbles x = Checks.streetOf("s1k1/..");
        c.due("ram(1, 40, 0)", x.ram(1, 40, 0), 0);
        c.cells(x, "ram: a kerb gets no seat", 3, 40, 0, 0, 0);
        c.refuses(x, "ram(0, 1, 0)", () -> x.ram(0, 1, 0), OUTSIDE);
        c.refuses(x, "ram(100, 1, 0)", () -> x.ram(100, 1, 0), OUTSIDE);
        c.refuses(x, "ram(1, 0, 0)", () -> x.ram(1, 0, 0), OUTSIDE);
        c.refuses(x, "ram(1, 41, 0)", () -> x.ram(1, 41, 0), OUTSIDE);
        c.refuses(x, "ram(1, 1, -1)", () -> x.ram(1, 1, -1), OUTSIDE);
        c.refuses(x, "ram(1, 1, 4)", () -> x.ram(1, 1, 4), OUTSIDE);
    }

    private static void rings() {
        RammedCobbles x = Checks.streetOf("s1s1/k1l1");
        c.looks(x, "rings(9): the kerb", () -> x.rings(9), 1);
        c.looks(x, "rings(8): a stone with hold 5, too", () -> x.rings(8), 2);
        c.looks(x, "rings(6)", () -> x.rings(6), 2);
        c.looks(x, "rings(5): a stone with hold 2, too", () -> x.rings(5), 3);
        c.looks(x, "rings(1): the loose one never", () -> x.rings(1), 3);
        c.looks(x, "rings(99)", () -> x.rings(99), 1);
        c.refuses(x, "rings(0)", () -> x.rings(0), OUTSIDE);
        c.refuses(x, "rings(100)", () -> x.rings(100), OUTSIDE);
    }

    private static void proud() {
        RammedCobbles x = Checks.streetOf(MIDDLE);
        int[][] want = {{46, 29, 44}, {44, 29, 46}, {46, 29, 44}, {44, 29, 44}};
        for (int order = 0; order < 4; order++) {
            for (int i = 0; i < 3; i++) {
                int at = order;
                int cell = 3 + i;
                c.looks(x, "proud(" + cell + ", 63, 4, " + order + ")", () -> x.proud(cell, 63, 4, at), want[order][i]);
            }
        }
        c.looks(x, "proud of no rounds", () -> x.proud(3, 63, 0, 0), 0);
        x.blow(3, 63);
        c.looks(x, "proud from now", () -> x.proud(3, 63, 1, 0), 12);
        c.refuses(x, "proud of sand", () -> x.proud(0, 63, 1, 0), UNKNOWN);
        c.refuses(x, "proud(6, ..)", () -> x.proud(6, 63, 1, 0), UNKNOWN);
        c.refuses(x, "proud(-1, 0, ..): UNKNOWN first", () -> x.proud(-1, 0, 1, 0), UNKNOWN);
        c.refuses(x, "proud: weight 0", () -> x.proud(3, 0, 1, 0), OUTSIDE);
        c.refuses(x, "proud: weight 100", () -> x.proud(3, 100, 1, 0), OUTSIDE);
        c.refuses(x, "proud: rounds -1", () -> x.proud(3, 1, -1, 0), OUTSIDE);
        c.refuses(x, "proud: rounds 41", () -> x.proud(3, 1, 41, 0), OUTSIDE);
        c.looks(x, "proud: rounds 40", () -> x.proud(3, 1, 40, 0), 0);
        c.refuses(x, "proud: order -1", () -> x.proud(3, 1, 1, -1), OUTSIDE);
        c.refuses(x, "proud: order 4", () -> x.proud(3, 1, 1, 4), OUTSIDE);
    }

    private static void until() {
        RammedCobbles x = Checks.streetOf("s1./..");
        c.looks(x, "until(99, 0): seat 96", () -> x.until(99, 0), 96);
        c.looks(x, "until(4, 1): seat 1", () -> x.until(4, 1), 1);
        c.looks(x, "until(3, 2)", () -> x.until(3, 2), 0);
        x.blow(0, 1);
        c.looks(x, "until from now", () -> x.until(99, 3), 95);
        RammedCobbles y = Checks.streetOf("k1l1/..");
        c.looks(y, "until(1, 0): a loose one is a stone behind 4", () -> y.until(1, 0), 4);
        RammedCobbles z = Checks.streetOf("../..");
        c.looks(z, "until of no stones", () -> z.until(99, 0), 0);
        c.refuses(x, "until(0, 0)", () -> x.until(0, 0), OUTSIDE);
        c.refuses(x, "until(100, 0)", () -> x.until(100, 0), OUTSIDE);
        c.refuses(x, "until(1, -1)", () -> x.until(1, -1), OUTSIDE);
        c.refuses(x, "until(1, 4)", () -> x.until(1, 4), OUTSIDE);
    }

    private static void uneven() {
        RammedCobbles x = Checks.streetOf("s1k1/s1.");
        c.looks(x, "uneven at first: sand does not count", x::uneven, 0);
        x.blow(0, 99);
        c.looks(x, "uneven: 99 by 9", x::uneven, 11);
        x.set(30);
        x.blow(2, 99);
        c.looks(x, "uneven: 99 by 7", x::uneven, 16);
        RammedCobbles none = Checks.streetOf("../..");
        c.looks(none, "uneven of no stones", none::uneven, 0);
    }

    private static void evenest() {
        RammedCobbles x = Checks.streetOf(MIDDLE);
        c.looks(x, "evenest(63, 4)", () -> x.evenest(63, 4), 3);
        c.looks(x, "evenest(63, 3): all alike", () -> x.evenest(63, 3), 0);
        c.looks(x, "evenest(63, 0)", () -> x.evenest(63, 0), 0);
        c.looks(x, "evenest(1, 40)", () -> x.evenest(1, 40), 0);
        c.refuses(x, "evenest(0, 1)", () -> x.evenest(0, 1), OUTSIDE);
        c.refuses(x, "evenest(100, 1)", () -> x.evenest(100, 1), OUTSIDE);
        c.refuses(x, "evenest(1, -1)", () -> x.evenest(1, -1), OUTSIDE);
        c.refuses(x, "evenest(1, 41)", () -> x.evenest(1, 41), OUTSIDE);
    }

    private static void withoutAStreet() {
        RammedCobbles x = new RammedCobbles();
        c.refuses(x, "set(-1) without a street", () -> x.set(-1), STATE);
        c.refuses(x, "grit(10) without a street", () -> x.grit(10), STATE);
        c.refuses(x, "blow(0, 0) without a street", () -> x.blow(0, 0), UNKNOWN);
        c.refuses(x, "ram(0, 0, 9) without a street", () -> x.ram(0, 0, 9), STATE);
        c.refuses(x, "rings(0) without a street", () -> x.rings(0), STATE);
        c.refuses(x, "proud(0, 0, 0, 0) without a street", () -> x.proud(0, 0, 0, 0), UNKNOWN);
        c.refuses(x, "until(0, 0) without a street", () -> x.until(0, 0), STATE);
        c.refuses(x, "uneven() without a street", x::uneven, STATE);
        c.refuses(x, "evenest(0, 0) without a street", () -> x.evenest(0, 0), STATE);
    }
}
