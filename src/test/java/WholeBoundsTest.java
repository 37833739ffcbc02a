import java.math.BigInteger;

/** The bounds that the document names for what is told of all (promises 33 to 36), and the 512 calls of an object. */
public final class WholeBoundsTest {
    private static final int UNKNOWN = -101, OUTSIDE = -102, STATE = -103, FULL = -104;
    private static final int LEAST = Integer.MIN_VALUE, GREATEST = Integer.MAX_VALUE;
    private static final String FULL_STREET = "s1o2l3t4k5s6/o7l8t9k1s2o3/l4t5k6s7o8l9/t1k2s3o4l5t6/k7s8o9l1t2k9";
    private static final Checks c = new Checks("WholeBoundsTest");

    public static void main(String[] args) {
        imageOfNone();
        imageOfEmptyAndFull();
        imageIsTheLatest();
        imageKeepsTheSeed();
        imageOfAnotherStreet();
        restoreChangesNothingElse();
        countsOfEmptyAndFull();
        countsRefused();
        digestOfNothing();
        digestOfEachThing();
        digestOfAllAtOnce();
        digestOfThreeYears();
        digestWraps();
        digestChangesNothing();
        refusedStreetOrCartsKeepTheImage();
        fiveHundredAndTwelveCalls();
        c.end();
    }

    // ---- promises 33 and 34

    /** "STATE: there is no STREET"; "STATE: none was kept". */
    private static void imageOfNone() {
        RammedCobbles x = new RammedCobbles();
        c.refuses(x, "image() without a street", x::image, STATE);
        c.refuses(x, "restore() without a street", x::restore, STATE);
        Checks.write(x, "s1./..");
        x.street();
        c.refuses(x, "restore(), none was kept", x::restore, STATE);
        c.looks(x, "image()", x::image, 1);
        c.looks(x, "restore()", x::restore, 1);
    }

    /** "how many stones": none of SAND alone, all 30 of a full STREET; restore() tells those of the IMAGE. */
    private static void imageOfEmptyAndFull() {
        RammedCobbles sand = Checks.streetOf("../..");
        c.looks(sand, "image() of sand", sand::image, 0);
        sand.mend(0, 1);
        sand.mend(3, 1);
        c.due("restore() of sand", sand.restore(), 0);
        c.cells(sand, "sand restored", 0, -1, -1, -1, -1);
        c.cells(sand, "sand restored: heights", 2, -5, -5, -5, -5);
        RammedCobbles full = Checks.streetOf(FULL_STREET, "0x99,1x99,2x99,3x99,4x99,4x99");
        c.looks(full, "image() of 30", full::image, 30);
        long before = full.digest();
        c.due("some are lost in twenty years", full.years(20, 10) > 0 ? 1 : 0, 1);
        c.due("restore() of 30", full.restore(), 30);
        c.due("all is as it was", full.digest(), before);
    }

    /** "(one; the latest)". */
    private static void imageIsTheLatest() {
        RammedCobbles x = Checks.streetOf("s1./..");
        x.image();
        x.set(1);
        x.image();
        x.set(2);
        x.restore();
        c.due("the latest", x.cell(0, 2), 1);
        x.set(3);
        x.restore();
        c.due("it stays", x.cell(0, 2), 1);
    }

    /** "keeps all of THE STREET and THE SEED": KIND, SIZE, HEIGHT, SEAT, JOINT of each CELL; the least and greatest seed. */
    private static void imageKeepsTheSeed() {
        RammedCobbles x = Checks.streetOf("s1t2/l3.");
        for (int seed : new int[] {0, 1, GREATEST}) {
            x.seed(seed);
            x.image();
            x.seed(77);
            x.restore();
            c.due("the seed restored", x.count(5), seed);
        }
        x.set(6);
        x.grit(8);
        x.blow(1, 4);
        x.image();
        x.mend(1, 9);
        x.mend(2, 9);
        x.mend(3, 9);
        x.set(2);
        x.grit(0);
        x.ram(9, 2, 0);
        x.restore();
        c.cells(x, "restored: kinds", 0, 0, 3, 2, -1);
        c.cells(x, "restored: sizes", 1, 1, 2, 3, 0);
        c.cells(x, "restored: heights: 4 by 14, and 1, twice", 2, 6, 4, 6, -5);
        c.cells(x, "restored: seats", 3, 0, 1, 0, 0);
        c.cells(x, "restored: joints", 4, 8, 8, 8, 0);
    }

    /** "or there is another STREET since": be it of the same text; a page that is none is no other STREET. */
    private static void imageOfAnotherStreet() {
        RammedCobbles x = Checks.streetOf("s1l2/k3.");
        x.image();
        Checks.write(x, "s1l2/k3");
        x.street();
        x.set(9);
        c.due("a street that was refused is none", x.restore(), 3);
        c.due("restored", x.cell(0, 2), 0);
        x.blank();
        Checks.write(x, "s1l2/k3.");
        x.street();
        x.set(9);
        c.refuses(x, "restore() on the same text read again", x::restore, STATE);
        c.due("nothing is restored", x.cell(0, 2), 9);
        x.image();
        x.set(4);
        c.due("an image of the other one", x.restore(), 3);
        c.due("restored to that", x.cell(0, 2), 9);
        Checks.write(x, "../../..");
        x.street();
        c.refuses(x, "restore() on a third one", x::restore, STATE);
        c.due("its cells", x.count(0), 6);
    }

    private static void restoreChangesNothingElse() {
        RammedCobbles x = Checks.streetOf("l1./..", "0x5");
        x.image();
        Checks.write(x, "4x6,1x7");
        x.carts();
        x.heap(3);
        x.first(1, 1, 0, 0);
        Checks.write(x, "ab");
        long before = x.digest();
        c.due("restore() where nothing else is kept", x.restore(), 1);
        c.due("carts, heap, letters and counts are those of now", x.digest(), before);
    }

    // ---- promise 35

    /** "How many: 0 CELLS, 1 stones, 2 CARTS, 3 stones of THE HEAP, 4 letters, 5 THE SEED, 6 and 7 how often". */
    private static void counts(RammedCobbles x, String told, int... want) {
        for (int what = 0; what < 8; what++) {
            int at = what;
            c.looks(x, told + ": count(" + what + ")", () -> x.count(at), want[what]);
        }
    }

    private static void countsOfEmptyAndFull() {
        counts(new RammedCobbles(), "new", 0, 0, 0, 0, 0, 1, 0, 0);
        counts(Checks.streetOf("../.."), "sand", 4, 0, 0, 0, 0, 1, 1, 0);
        RammedCobbles x = Checks.streetOf(FULL_STREET, "0x99,1x99,2x99,3x99,4x99,4x99");
        for (int i = 0; i < 10; i++) {
            x.heap(1);
        }
        for (int i = 0; i < 20; i++) {
            x.first(1, 1, 0, 0);
        }
        x.seed(GREATEST);
        Checks.write(x, "x".repeat(64));
        counts(x, "full", 30, 30, 6, 10, 64, GREATEST, 1, 20);
        x.heap(1);
        x.first(1, 1, 0, 0);
        x.letters('x');
        x.seed(-1);
        x.street();
        x.carts();
        counts(x, "full, and all refused", 30, 30, 6, 10, 64, GREATEST, 1, 20);
        x.blank();
        for (int i = 2; i <= 9; i++) {
            Checks.write(x, "../.k1");
            x.street();
            c.due("streets read", x.count(6), i);
        }
        counts(x, "many streets", 4, 1, 6, 10, 0, GREATEST, 9, 20);
    }

    private static void countsRefused() {
        RammedCobbles x = new RammedCobbles();
        for (int what : new int[] {LEAST, -1, 8, GREATEST}) {
            c.refuses(x, "count(" + what + ")", () -> x.count(what), OUTSIDE);
        }
    }

    // ---- promise 36

    private static void digestOfNothing() {
        c.due("digest of a new object", new RammedCobbles().digest(), Checks.digestOf(0, 0, 0, 0, 0, 1, 0, 0));
    }

    /** Each of the numbers alone, with nothing else there. */
    private static void digestOfEachThing() {
        RammedCobbles page = new RammedCobbles();
        page.letters(126);
        page.letters(1);
        c.due("letters alone", page.digest(), Checks.digestOf(126, 1, 0, 0, 0, 0, 2, 1, 0, 0));
        RammedCobbles heap = new RammedCobbles();
        heap.heap(9);
        heap.heap(1);
        c.due("a heap alone", heap.digest(), Checks.digestOf(9, 1, 0, 0, 0, 2, 0, 1, 0, 0));
        RammedCobbles carts = new RammedCobbles();
        Checks.write(carts, "9x99,0x1");
        carts.carts();
        c.due("carts alone: nothing of would()", carts.digest(), Checks.digestOf(9, 99, 0, 1, 0, 0, 2, 0, 0, 1, 0, 0));
        RammedCobbles seed = new RammedCobbles();
        seed.seed(GREATEST);
        c.due("a seed alone", seed.digest(), Checks.digestOf(0, 0, 0, 0, 0, GREATEST, 0, 0));
        RammedCobbles sand = Checks.streetOf("../..");
        c.due("a street alone: uneven, nothing of would()", sand.digest(), Checks.digestOf(
                -1, 0, -5, 0, 0, 0, 0, -1, 0, -5, 0, 0, 0, 0, -1, 0, -5, 0, 0, 0, 0, -1, 0, -5, 0, 0, 0, 0,
                0, 4, 0, 0, 0, 0, 1, 1, 0));
    }

    /** All of it, with WATER, UNEVEN, and would() of 3 YEARS with FROST 4, told by the calls themselves. */
    private static void digestOfAllAtOnce() {
        RammedCobbles x = Checks.streetOf("k9s8k7/o6s5o4/k3l2k1", "0x99,1x98,2x97,2x96");
        x.grit(3);
        x.set(4);
        x.blow(4, 99);
        x.blow(7, 30);
        x.heap(5);
        x.heap(2);
        x.seed(99);
        x.first(1, 2, 3, 1);
        Checks.write(x, "s1~");
        long h = 509;
        for (int cell = 0; cell < 9; cell++) {
            for (int what = 0; what < 6; what++) {
                h = 31 * h + x.cell(cell, what);
            }
            h = 31 * h + x.water(cell);
        }
        for (int cart = 0; cart < 4; cart++) {
            h = 31 * (31 * h + x.cart(cart, 0)) + x.cart(cart, 1);
        }
        for (long number : new long[] {5, 2, x.uneven(), x.would(3, 4), 's', '1', '~'}) {
            h = 31 * h + number;
        }
        for (int what = 0; what < 8; what++) {
            h = 31 * h + x.count(what);
        }
        c.due("water stands in the middle", x.water(4) > 0 ? 1 : 0, 1);
        c.due("it is uneven", x.uneven() > 0 ? 1 : 0, 1);
        c.due("one would be lost", x.would(3, 4), 1);
        c.due("all of it", x.digest(), h);
    }

    /**
     * "what would() tells of 3 YEARS with FROST 4": a stone in water, with WEAR 80 and less of JOINT by 2 each year,
     * bears 110, 90, 70, 50. As a STONE it is LOOSE in the third year and LOST in the fourth; TILTED by one of the
     * first two draws it is LOST in the third. None is LOST in two years.
     */
    private static void digestOfThreeYears() {
        for (int leastDraw = 3; leastDraw <= 4; leastDraw++) {
            RammedCobbles x = Checks.streetOf(".../.s1./...", "1x80");
            c.due("99 by 4", x.blow(4, 99), 24);
            x.grit(9);
            int seed = seedWithLeastDraw(leastDraw);
            x.seed(seed);
            int lost = leastDraw == 3 ? 1 : 0;
            c.due("would(2, 4), least draw " + leastDraw, x.would(2, 4), 0);
            c.due("would(3, 3), least draw " + leastDraw, x.would(3, 3), 0);
            c.due("would(3, 4), least draw " + leastDraw, x.would(3, 4), lost);
            c.due("would(3, 5), least draw " + leastDraw, x.would(3, 5), 1);
            c.due("would(4, 4), least draw " + leastDraw, x.would(4, 4), 1);
            c.due("digest, least draw " + leastDraw, x.digest(), Checks.digestOf(
                    -1, 0, -5, 0, 0, 0, 0, -1, 0, -5, 0, 0, 2, 0, -1, 0, -5, 0, 0, 0, 0,
                    -1, 0, -5, 0, 0, 2, 0, 0, 1, -24, 1, 9, 9, 19, -1, 0, -5, 0, 0, 2, 0,
                    -1, 0, -5, 0, 0, 0, 0, -1, 0, -5, 0, 0, 2, 0, -1, 0, -5, 0, 0, 0, 0,
                    1, 80, 0, lost, 9, 1, 1, 0, 0, seed, 1, 0));
        }
    }

    /** A seed the lesser one of whose next two draws is that. */
    private static int seedWithLeastDraw(int draw) {
        int seed = 0;
        while (true) {
            long one = (1103515245L * seed + 12345L) % 2147483648L;
            long other = (1103515245L * one + 12345L) % 2147483648L;
            if (Math.min(one / 65536 % 10, other / 65536 % 10) == draw) {
                return seed;
            }
            seed++;
        }
    }

    /** "(as longs, wrapping)": of a full page the digest is far greater than a long. */
    private static void digestWraps() {
        RammedCobbles x = new RammedCobbles();
        Checks.write(x, "~".repeat(64));
        BigInteger h = BigInteger.valueOf(509);
        BigInteger by = BigInteger.valueOf(31);
        for (int i = 0; i < 64; i++) {
            h = h.multiply(by).add(BigInteger.valueOf('~'));
        }
        for (int count : new int[] {0, 0, 0, 0, 64, 1, 0, 0}) {
            h = h.multiply(by).add(BigInteger.valueOf(count));
        }
        c.due("it is too great for a long", h.bitLength() > 64 ? 1 : 0, 1);
        c.due("its lowest 64 bits", x.digest(), h.longValue());
    }

    private static void digestChangesNothing() {
        RammedCobbles x = Checks.streetOf("l1l1/..", "0x99");
        x.seed(5);
        long first = x.digest();
        c.due("digest() again", x.digest(), first);
        c.due("the stones stay", x.count(1), 2);
        c.due("the seed stays", x.count(5), 5);
        c.due("first() was not done", x.count(7), 0);
    }

    /** "they change nothing": a page that is refused keeps the IMAGE, THE STREET, the CARTS and itself. */
    private static void refusedStreetOrCartsKeepTheImage() {
        RammedCobbles x = Checks.streetOf("s1l2/k3.", "0x9");
        x.image();
        x.set(9);
        Checks.write(x, "s1l2/k3./");
        c.refuses(x, "street() of a page that goes on", x::street, STATE);
        c.refuses(x, "carts() of a page that is a street's", x::carts, STATE);
        c.refuses(x, "letters() that are none", () -> x.letters(-1), OUTSIDE);
        Checks.write(x, "x".repeat(55));
        c.refuses(x, "letters() behind 64", () -> x.letters('x'), FULL);
        c.due("its letters", x.count(4), 64);
        c.due("its image", x.restore(), 3);
        c.due("restored", x.cell(0, 2), 0);
    }

    // ---- the first section

    /** "An object is used for at most 512 calls": the 512th holds as the first does. */
    private static void fiveHundredAndTwelveCalls() {
        RammedCobbles x = new RammedCobbles();
        int calls = 0;
        for (int i = 0; i < 63; i++) {
            c.due("street " + i + ": letters", x.letters(Checks.packed("t1s2/k3.")), 8);
            c.due("street " + i, x.street(), 4);
            c.due("street " + i + ": set", x.set(40), 3);
            c.due("street " + i + ": sinks: 99 by 9, and 1, twice", x.blow(0, 99), 24);
            c.due("street " + i + ": ram", x.ram(99, 40, 3) > 0 ? 1 : 0, 1);
            c.due("street " + i + ": image", x.image(), 3);
            c.due("street " + i + ": seed", x.seed(i), i == 0 ? 1 : i - 1);
            c.due("street " + i + ": count", x.count(6), i + 1);
            calls += 8;
        }
        while (calls < 511) {
            c.due("call " + calls, x.water(4), UNKNOWN);
            calls++;
        }
        c.due("call 512", x.restore(), 3);
        sinksAllTheWay();
    }

    /** 511 calls that let one stone sink as far as they can: it is loose again each year. */
    private static void sinksAllTheWay() {
        RammedCobbles x = Checks.streetOf("s9./..", "0x99,0x99");
        int calls = 4;
        int height = 0;
        while (calls + 3 <= 511) {
            height -= x.ram(99, 40, 0);
            x.years(1, 0);
            calls += 2;
            c.due("it is loose", x.cell(0, 0), 2);
            calls++;
        }
        c.due("how low it is", x.cell(0, 2), height);
        c.due("far below what cell() refuses with", height < -1002 ? 1 : 0, 1);
    }
}
