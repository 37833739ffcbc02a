/** Promises 1 to 9: a new object, THE PAGE, and what is read from it. */
public final class TextsTest {
    private static final int NONE = -1, UNKNOWN = -101, OUTSIDE = -102, STATE = -103, FULL = -104;
    private static final String WIDEST = "s1s2s3s4s5s6/o1o2o3o4o5o6/l1l2l3l4l5l6/t1t2t3t4t5t6/k1k2k3k4k5k9";
    private static final Checks c = new Checks("TextsTest");

    public static void main(String[] args) {
        newObject();
        letters();
        lettersFull();
        blank();
        faultOfStreets();
        faultOfCarts();
        street();
        streetAgain();
        carts();
        cell();
        as();
        c.end();
    }

    private static void newObject() {
        RammedCobbles x = new RammedCobbles();
        int[] counts = {0, 0, 0, 0, 0, 1, 0, 0};
        for (int what = 0; what < 8; what++) {
            c.due("new: count(" + what + ")", x.count(what), counts[what]);
        }
        c.due("new: digest()", x.digest(), Checks.digestOf(0, 0, 0, 0, 0, 1, 0, 0));
        c.due("new: restore()", x.restore(), STATE);
        c.due("new: fits(90, 0)", x.fits(90, 0), 0);
    }

    private static void letters() {
        RammedCobbles x = new RammedCobbles();
        c.looks(x, "letters(0)", () -> x.letters(0), 0);
        c.due("letters of 1", x.letters(Checks.packed("a")), 1);
        c.due("letters of 8", x.letters(Checks.packed("bcdefghi")), 9);
        c.due("letter 126", x.letters(126), 10);
        c.due("letter 1", x.letters(1), 11);
        c.refuses(x, "letter 127", () -> x.letters(127), OUTSIDE);
        c.refuses(x, "letter 255", () -> x.letters(255), OUTSIDE);
        c.refuses(x, "letter 128 at the end", () -> x.letters(0x8041414141414141L), OUTSIDE);
        c.refuses(x, "letter 127 at the end", () -> x.letters(0x7f41414141414141L), OUTSIDE);
        c.refuses(x, "all bits", () -> x.letters(-1L), OUTSIDE);
        c.refuses(x, "a letter behind a 0", () -> x.letters(0x410041L), OUTSIDE);
        c.refuses(x, "a letter behind a first 0", () -> x.letters(0x4100L), OUTSIDE);
        c.refuses(x, "a letter far behind a 0", () -> x.letters(0x4100000000000041L), OUTSIDE);
        c.due("digest of letters", x.digest(), Checks.digestOf('a', 'b', 'c', 'd', 'e', 'f', 'g', 'h', 'i', 126, 1,
                0, 0, 0, 0, 11, 1, 0, 0));
    }

    private static void lettersFull() {
        RammedCobbles x = new RammedCobbles();
        Checks.write(x, "x".repeat(60));
        c.due("60 letters", x.count(4), 60);
        c.refuses(x, "5 behind 60", () -> x.letters(Checks.packed("abcde")), FULL);
        c.due("4 behind 60", x.letters(Checks.packed("abcd")), 64);
        c.refuses(x, "1 behind 64", () -> x.letters(Checks.packed("a")), FULL);
        c.looks(x, "0 behind 64", () -> x.letters(0), 64);
        c.refuses(x, "OUTSIDE is ahead of FULL", () -> x.letters(127), OUTSIDE);
    }

    private static void blank() {
        RammedCobbles x = new RammedCobbles();
        c.due("blank of none", x.blank(), 0);
        Checks.write(x, "../");
        c.due("blank of 3", x.blank(), 3);
        c.due("behind blank", x.count(4), 0);
        c.due("blank again", x.blank(), 0);
        c.due("behind blank a page begins anew", x.letters(Checks.packed("..")), 2);
    }

    private static void fault(int sort, String text, int want) {
        RammedCobbles x = new RammedCobbles();
        Checks.write(x, text);
        c.looks(x, "fault(" + sort + ") of " + text, () -> x.fault(sort), want);
    }

    private static void faultOfStreets() {
        for (String whole : new String[] {"", "s", "s1", "o9", "l", "t2", "k3", ".", "..", "../", "../.", "../..",
                "s1./", "......", "....../", "../../../../..", WIDEST}) {
            fault(0, whole, whole.length());
        }
        fault(0, "x", 0);
        fault(0, "S1", 0);
        fault(0, "1", 0);
        fault(0, "/", 0);
        fault(0, "s0", 1);
        fault(0, "s.", 1);
        fault(0, "ss", 1);
        fault(0, "s:", 1);
        fault(0, "./", 1);
        fault(0, "s1/", 2);
        fault(0, "s12", 2);
        fault(0, "..//", 3);
        fault(0, "..s/", 3);
        fault(0, ".......", 6);
        fault(0, "s1s1s1s1s1s1.", 12);
        fault(0, "../...", 5);
        fault(0, ".../../", 6);
        fault(0, "../../.../", 8);
        fault(0, "../../../../../", 14);
        fault(0, "../../../../...", 14);
        fault(0, "a" + WIDEST.substring(1), 0);
        RammedCobbles x = new RammedCobbles();
        c.refuses(x, "fault(-1)", () -> x.fault(-1), OUTSIDE);
        c.refuses(x, "fault(2)", () -> x.fault(2), OUTSIDE);
    }

    private static void faultOfCarts() {
        for (String whole : new String[] {"", "0", "9", "0x", "0x1", "0x9", "0x10", "9x99", "9x99,", "0x1,5",
                "0x1,0x1,0x1,0x1,0x1,0x1", "1x12,2x34,3x56,4x78,5x90,6x99"}) {
            fault(1, whole, whole.length());
        }
        fault(1, "x", 0);
        fault(1, ",", 0);
        fault(1, ":", 0);
        fault(1, "00", 1);
        fault(1, "0X", 1);
        fault(1, "0x0", 2);
        fault(1, "0x,", 2);
        fault(1, "0xx", 2);
        fault(1, "0x1x", 3);
        fault(1, "0x1/", 3);
        fault(1, "0x100", 4);
        fault(1, "0x10x", 4);
        fault(1, "0x1,,", 4);
        fault(1, "0x1,0x1,0x1,0x1,0x1,0x1,", 23);
        fault(1, "0x10,0x10,0x10,0x10,0x10,0x10,0", 29);
    }

    private static void noStreet(String text) {
        RammedCobbles x = new RammedCobbles();
        Checks.write(x, text);
        c.refuses(x, "street() of " + text, x::street, STATE);
    }

    private static void street() {
        for (String none : new String[] {"", ".", "..", "s1s1", "../", "../.", "../s", "../.s", "../../", "../...",
                ".../..", "./.", "s1/s1", "......./.......", "../../../../../..", "0x1"}) {
            noStreet(none);
        }
        RammedCobbles x = new RammedCobbles();
        Checks.write(x, "s5l3/k9.");
        c.due("street()", x.street(), 4);
        c.due("street: letters", x.count(4), 0);
        c.due("street: read", x.count(6), 1);
        c.cells(x, "street: kinds", 0, 0, 2, 4, -1);
        c.cells(x, "street: sizes", 1, 5, 3, 9, 0);
        c.cells(x, "street: heights", 2, 0, 0, 0, -5);
        c.cells(x, "street: seats", 3, 0, 0, 0, 0);
        c.cells(x, "street: joints", 4, 0, 0, 0, 0);
        c.cells(x, "street: holds", 5, 3, 2, 2, 3);
        RammedCobbles y = new RammedCobbles();
        Checks.write(y, WIDEST);
        c.due("the widest street", y.street(), 30);
        c.due("the widest street: stones", y.count(1), 30);
        c.due("the widest street: the last size", y.cell(29, 1), 9);
        c.due("the widest street: no more rows", y.shake(5, 1, 0), UNKNOWN);
        c.due("the widest street: a tilted one", y.cell(20, 0), 3);
    }

    private static void streetAgain() {
        RammedCobbles x = Checks.streetOf("s1s1s1/s1s1s1", "0x9");
        x.grit(5);
        x.blow(0, 99);
        x.seed(7);
        Checks.write(x, "s2./k3.");
        c.due("another street", x.street(), 4);
        c.cells(x, "another street: sizes", 1, 2, 0, 3, 0);
        c.cells(x, "another street: heights", 2, 0, -5, 0, -5);
        c.cells(x, "another street: seats", 3, 0, 0, 0, 0);
        c.cells(x, "another street: joints", 4, 0, 0, 0, 0);
        c.cells(x, "another street: holds", 5, 3, 2, 2, 3);
        c.due("another street: streets read", x.count(6), 2);
        c.due("another street: carts stay", x.count(2), 1);
        c.due("another street: the seed stays", x.count(5), 7);
        c.due("another street: the old cells are gone", x.cell(4, 0), -1001);
    }

    private static void carts() {
        for (String none : new String[] {"", "0", "0x", "0x1,", "0x1,1", "0x1,1x", "0x0", "0x100", "../..",
                "0x1,0x1,0x1,0x1,0x1,0x1,0x1"}) {
            RammedCobbles y = new RammedCobbles();
            Checks.write(y, none);
            c.refuses(y, "carts() of " + none, y::carts, STATE);
        }
        RammedCobbles x = new RammedCobbles();
        c.refuses(x, "cart(0, 0) of none", () -> x.cart(0, 0), UNKNOWN);
        Checks.write(x, "0x1,9x99,4x50,1x7,2x30,3x99");
        c.due("carts()", x.carts(), 6);
        c.due("carts: letters", x.count(4), 0);
        int[] rows = {0, 9, 4, 1, 2, 3};
        int[] loads = {1, 99, 50, 7, 30, 99};
        for (int i = 0; i < 6; i++) {
            c.due("cart(" + i + ", 0)", x.cart(i, 0), rows[i]);
            c.due("cart(" + i + ", 1)", x.cart(i, 1), loads[i]);
        }
        c.refuses(x, "cart(6, 0)", () -> x.cart(6, 0), UNKNOWN);
        c.refuses(x, "cart(-1, 0)", () -> x.cart(-1, 0), UNKNOWN);
        c.refuses(x, "cart(6, 2): UNKNOWN first", () -> x.cart(6, 2), UNKNOWN);
        c.refuses(x, "cart(0, 2)", () -> x.cart(0, 2), OUTSIDE);
        c.refuses(x, "cart(0, -1)", () -> x.cart(0, -1), OUTSIDE);
        Checks.write(x, "x");
        c.refuses(x, "carts() refused keeps the others", x::carts, STATE);
        c.due("the others", x.count(2), 6);
        x.blank();
        Checks.write(x, "5x8");
        c.due("other carts", x.carts(), 1);
        c.due("other carts: row", x.cart(0, 0), 5);
        c.due("other carts: load", x.cart(0, 1), 8);
        c.due("other carts: those before are gone", x.cart(1, 0), UNKNOWN);
    }

    private static void cell() {
        RammedCobbles none = new RammedCobbles();
        c.refuses(none, "cell(0, 0) without a street", () -> none.cell(0, 0), -1001);
        c.refuses(none, "cell(0, 9) without a street", () -> none.cell(0, 9), -1001);
        RammedCobbles x = Checks.streetOf("s1o2l3/t4k5./s6.o7");
        c.cells(x, "cell: kinds", 0, 0, 1, 2, 3, 4, -1, 0, -1, 1);
        c.cells(x, "cell: sizes", 1, 1, 2, 3, 4, 5, 0, 6, 0, 7);
        c.cells(x, "cell: holds", 5, 1, 5, 1, 7, 1, 4, 0, 6, 0);
        x.grit(4);
        c.cells(x, "cell: joints", 4, 4, 4, 4, 4, 4, 0, 4, 0, 4);
        c.cells(x, "cell: holds with joints", 5, 5, 9, 5, 11, 5, 4, 4, 6, 4);
        c.refuses(x, "cell(9, 0)", () -> x.cell(9, 0), -1001);
        c.refuses(x, "cell(-1, 0)", () -> x.cell(-1, 0), -1001);
        c.refuses(x, "cell(9, 6): UNKNOWN first", () -> x.cell(9, 6), -1001);
        c.refuses(x, "cell(0, 6)", () -> x.cell(0, 6), -1002);
        c.refuses(x, "cell(5, -1)", () -> x.cell(5, -1), -1002);
    }

    private static void as() {
        RammedCobbles none = new RammedCobbles();
        c.refuses(none, "as(0, 0) without a street", () -> none.as(0, 0), UNKNOWN);
        RammedCobbles x = Checks.streetOf("s1o2l3/t4k5.");
        int[][] want = {
            {0, NONE, NONE, NONE, NONE}, {1, 1, NONE, NONE, NONE}, {2, NONE, 2, NONE, NONE},
            {3, NONE, 3, 3, NONE}, {4, NONE, NONE, NONE, 4}, {NONE, NONE, NONE, NONE, NONE}};
        for (int cell = 0; cell < 6; cell++) {
            for (int kind = 0; kind < 5; kind++) {
                c.due("as(" + cell + ", " + kind + ")", x.as(cell, kind), want[cell][kind]);
            }
        }
        c.refuses(x, "as(6, 0)", () -> x.as(6, 0), UNKNOWN);
        c.refuses(x, "as(-1, 0)", () -> x.as(-1, 0), UNKNOWN);
        c.refuses(x, "as(6, 5): UNKNOWN first", () -> x.as(6, 5), UNKNOWN);
        c.refuses(x, "as(0, 5)", () -> x.as(0, 5), OUTSIDE);
        c.refuses(x, "as(0, -1)", () -> x.as(0, -1), OUTSIDE);
        c.refuses(x, "as(5, 5): sand, but OUTSIDE", () -> x.as(5, 5), OUTSIDE);
    }
}
