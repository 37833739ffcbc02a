/** Promises 33 to 36: IMAGES, counts and the digest. */
public final class WholeTest {
    private static final int OUTSIDE = -102, STATE = -103;
    private static final Checks c = new Checks("WholeTest");

    public static void main(String[] args) {
        image();
        imageOfAnotherStreet();
        imageKeepsNoMore();
        count();
        digest();
        c.end();
    }

    private static void image() {
        RammedCobbles x = Checks.streetOf("s1t2/k3.", "0x99,1x99");
        c.refuses(x, "restore() of none", x::restore, STATE);
        x.grit(4);
        x.blow(1, 30);
        x.seed(17);
        c.looks(x, "image()", x::image, 3);
        long then = x.digest();
        x.mend(3, 2);
        x.set(12);
        x.grit(0);
        x.ram(60, 9, 3);
        x.seed(18);
        x.years(9, 10);
        c.due("restore()", x.restore(), 3);
        c.due("restored", x.digest(), then);
        c.due("restored: kind", x.cell(1, 0), 3);
        c.due("restored: seat", x.cell(1, 3), 1);
        c.due("restored: joint", x.cell(0, 4), 4);
        c.due("restored: seed", x.count(5), 17);
        x.ram(60, 9, 3);
        c.due("restore() again", x.restore(), 3);
        c.due("restored again", x.digest(), then);
        x.mend(3, 2);
        c.due("image() of four", x.image(), 4);
        long later = x.digest();
        x.set(1);
        c.due("restore() of the latest", x.restore(), 4);
        c.due("restored the latest", x.digest(), later);
    }

    private static void imageOfAnotherStreet() {
        RammedCobbles x = new RammedCobbles();
        c.refuses(x, "image() without a street", x::image, STATE);
        c.refuses(x, "restore() without a street", x::restore, STATE);
        Checks.write(x, "s1./..");
        x.street();
        x.image();
        Checks.write(x, "s1./..");
        x.street();
        c.refuses(x, "restore() on another street", x::restore, STATE);
        c.due("image() of it", x.image(), 1);
        x.blow(0, 9);
        c.due("restore() of it", x.restore(), 1);
        c.due("restored", x.cell(0, 2), 0);
        Checks.write(x, "s1");
        x.street();
        c.due("a page that is no street is no other street", x.restore(), 1);
    }

    private static void imageKeepsNoMore() {
        RammedCobbles x = Checks.streetOf("l1./..", "0x5");
        x.image();
        Checks.write(x, "1x6,1x7");
        x.carts();
        x.heap(3);
        Checks.write(x, "ab");
        x.first(1, 1, 0, 0);
        x.restore();
        c.due("carts", x.count(2), 2);
        c.due("the heap", x.count(3), 1);
        c.due("letters", x.count(4), 2);
        c.due("streets", x.count(6), 1);
        c.due("firsts", x.count(7), 1);
    }

    private static void count() {
        RammedCobbles x = Checks.streetOf("s1./l2.", "0x5,1x6");
        x.heap(1);
        x.heap(2);
        x.heap(3);
        Checks.write(x, "abcde");
        x.seed(77);
        x.first(1, 1, 0, 0);
        int[] want = {4, 2, 2, 3, 5, 77, 1, 1};
        for (int what = 0; what < 8; what++) {
            int at = what;
            c.looks(x, "count(" + what + ")", () -> x.count(at), want[what]);
        }
        c.refuses(x, "count(-1)", () -> x.count(-1), OUTSIDE);
        c.refuses(x, "count(8)", () -> x.count(8), OUTSIDE);
    }

    private static void digest() {
        RammedCobbles x = new RammedCobbles();
        Checks.write(x, "3x21");
        x.carts();
        c.due("carts without a street", x.digest(), Checks.digestOf(3, 21, 0, 0, 1, 0, 0, 1, 0, 0));
        RammedCobbles y = Checks.streetOf("s1./..");
        y.blow(0, 8);
        c.due("a street without carts", y.digest(), Checks.digestOf(
                0, 1, -2, 1, 0, 0, 0, -1, 0, -5, 0, 0, 2, 0, -1, 0, -5, 0, 0, 2, 0, -1, 0, -5, 0, 0, 0, 0,
                0, 4, 1, 0, 0, 0, 1, 1, 0));
        Checks.write(y, "0x21");
        y.carts();
        y.heap(6);
        Checks.write(y, "z");
        y.mend(1, 3);
        c.due("all of it", y.digest(), Checks.digestOf(
                0, 1, -2, 1, 0, 1, 0, 1, 3, 0, 0, 0, 2, 0, -1, 0, -5, 0, 0, 2, 0, -1, 0, -5, 0, 0, 1, 0,
                0, 21, 6, 2, 0, 'z', 4, 2, 1, 1, 1, 1, 1, 0));
        RammedCobbles z = Checks.streetOf("l1./..", "0x21");
        c.due("what would be lost", z.digest(), Checks.digestOf(
                2, 1, 0, 0, 0, 0, 0, -1, 0, -5, 0, 0, 0, 0, -1, 0, -5, 0, 0, 0, 0, -1, 0, -5, 0, 0, 0, 0,
                0, 21, 0, 1, 4, 1, 1, 0, 0, 1, 1, 0));
        // Grit of 1 keeps the stone for a year; then it is loose, and lost in the third; grit of 2, in the fourth.
        RammedCobbles third = Checks.streetOf("s1./..", "0x25");
        third.grit(1);
        c.due("lost in the third year", third.digest(), Checks.digestOf(
                0, 1, 0, 0, 1, 1, 0, -1, 0, -5, 0, 0, 2, 0, -1, 0, -5, 0, 0, 2, 0, -1, 0, -5, 0, 0, 0, 0,
                0, 25, 0, 1, 4, 1, 1, 0, 0, 1, 1, 0));
        third.grit(2);
        c.due("lost in the fourth year", third.digest(), Checks.digestOf(
                0, 1, 0, 0, 2, 2, 0, -1, 0, -5, 0, 0, 2, 0, -1, 0, -5, 0, 0, 2, 0, -1, 0, -5, 0, 0, 0, 0,
                0, 25, 0, 0, 4, 1, 1, 0, 0, 1, 1, 0));
    }
}
