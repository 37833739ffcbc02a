/** The bounds that the document names for texts: THE PAGE, STREETS and CARTS, and what is told of them (promises 1 to 9). */
public final class TextBoundsTest {
    private static final int NONE = -1, UNKNOWN = -101, OUTSIDE = -102, STATE = -103, FULL = -104;
    private static final String FULL_STREET = "s1o2l3t4k5s6/o7l8t9k1s2o3/l4t5k6s7o8l9/t1k2s3o4l5t6/k7s8o9l1t2k9";
    private static final String DIGITS = "0123456789";
    private static final Checks c = new Checks("TextBoundsTest");

    public static void main(String[] args) {
        newObjectHasNothing();
        upToEightLetters();
        codesIn();
        nothingBehindAZero();
        anyLong();
        lettersUpTo64();
        blankOfNoneAndAll();
        faultOfNoneAndAll();
        faultAskedAgain();
        everyLetterOfAStreet();
        everyLetterOfCarts();
        streetsOfAllMeasures();
        streetsOutOfMeasure();
        rowsAsLong();
        sizesOfStones();
        fullStreet();
        cellsAtFirst();
        refusedStreetKeepsTheOther();
        cartsOfAllNumbers();
        rowsOfCarts();
        loadsOfCarts();
        refusedCartsKeepTheOthers();
        cartsByNumber();
        besideEndsAtTheRim();
        holdAtMost();
        castsOfKinds();
        c.end();
    }

    private static RammedCobbles pageOf(String text) {
        RammedCobbles x = new RammedCobbles();
        Checks.write(x, text);
        return x;
    }

    // ---- promise 1

    /** "No STREET, no CARTS, no HEAP; THE SEED is 1." */
    private static void newObjectHasNothing() {
        RammedCobbles x = new RammedCobbles();
        int[] counts = {0, 0, 0, 0, 0, 1, 0, 0};
        for (int what = 0; what < 8; what++) {
            c.due("new: count(" + what + ")", x.count(what), counts[what]);
        }
        c.due("new: no street", x.uneven(), STATE);
        c.due("new: no cell", x.cell(0, 0), -1001);
        c.due("new: no row", x.worst(0), UNKNOWN);
        c.due("new: no cart", x.cart(0, 0), UNKNOWN);
        c.due("new: no heap", x.fits(90, 1), 0);
        c.due("new: no letters", x.blank(), 0);
        c.due("new: no image", x.restore(), STATE);
        c.due("new: the seed", x.seed(0), 1);
        RammedCobbles street = Checks.streetOf("../..");
        c.due("a street alone brings no carts", street.would(1, 0), STATE);
    }

    // ---- promise 2

    /** "Letters come behind THE PAGE, up to eight .. until a byte that is 0." */
    private static void upToEightLetters() {
        RammedCobbles x = new RammedCobbles();
        int has = 0;
        for (int many = 0; many <= 8; many++) {
            has += many;
            c.due(many + " letters", x.letters(Checks.packed("abcdefgh".substring(0, many))), has);
        }
        c.due("the lowest byte first", x.digest(), Checks.digestOf('a', 'a', 'b', 'a', 'b', 'c', 'a', 'b', 'c', 'd',
                'a', 'b', 'c', 'd', 'e', 'a', 'b', 'c', 'd', 'e', 'f', 'a', 'b', 'c', 'd', 'e', 'f', 'g',
                'a', 'b', 'c', 'd', 'e', 'f', 'g', 'h', 0, 0, 0, 0, 36, 1, 0, 0));
    }

    /** "OUTSIDE: a byte above 126": in each of the eight places. */
    private static void codesIn() {
        for (int place = 0; place < 8; place++) {
            long ahead = Checks.packed("abcdefgh".substring(0, place));
            for (int code = 1; code < 256; code++) {
                RammedCobbles x = new RammedCobbles();
                long w = ahead | (long) code << 8 * place;
                String call = "letter " + code + " in place " + place;
                if (code <= 126) {
                    c.due(call, x.letters(w), place + 1);
                } else {
                    c.refuses(x, call, () -> x.letters(w), OUTSIDE);
                }
            }
        }
    }

    /** "or one behind a 0 that is not 0": for each place of the 0 and each behind it. */
    private static void nothingBehindAZero() {
        RammedCobbles x = pageOf("page");
        for (int zero = 0; zero < 8; zero++) {
            long ahead = Checks.packed("abcdefgh".substring(0, zero));
            for (int behind = zero + 1; behind < 8; behind++) {
                for (long code : new long[] {1, 'a', 126, 127, 255}) {
                    RammedCobbles y = pageOf("page");
                    long w = ahead | code << 8 * behind;
                    c.refuses(y, code + " in place " + behind + " behind a 0 in " + zero, () -> y.letters(w), OUTSIDE);
                }
            }
        }
        c.looks(x, "nothing but zeros", () -> x.letters(0), 4);
    }

    /** The least and the greatest long, and those about 0. */
    private static void anyLong() {
        RammedCobbles x = pageOf("p");
        for (long w : new long[] {Long.MIN_VALUE, Long.MIN_VALUE + 1, Long.MAX_VALUE, -1L, -2L, 1L << 32, 1L << 56,
                0x7e7e7e7e7e7e7e7fL, 0x7f7e7e7e7e7e7e7eL, 0x7e7e7e7e7e7e7e00L}) {
            c.refuses(x, "letters(" + w + ")", () -> x.letters(w), OUTSIDE);
        }
        c.due("letters(0)", x.letters(0L), 1);
        c.due("letters(1)", x.letters(1L), 2);
        c.due("eight of 126", x.letters(0x7e7e7e7e7e7e7e7eL), 10);
        c.due("eight of 1", x.letters(0x0101010101010101L), 18);
    }

    /** "FULL: above 64": each number of letters behind each that is near to it. */
    private static void lettersUpTo64() {
        for (int has = 55; has <= 64; has++) {
            for (int many = 0; many <= 8; many++) {
                RammedCobbles x = pageOf("x".repeat(has));
                long w = Checks.packed("y".repeat(many));
                String call = many + " letters behind " + has;
                if (has + many > 64) {
                    c.refuses(x, call, () -> x.letters(w), FULL);
                } else {
                    c.due(call, x.letters(w), has + many);
                    c.due(call + ": count", x.count(4), has + many);
                }
            }
        }
        RammedCobbles full = pageOf("x".repeat(64));
        c.refuses(full, "OUTSIDE is told ahead of FULL: above 126", () -> full.letters(127), OUTSIDE);
        c.refuses(full, "OUTSIDE is told ahead of FULL: behind a 0", () -> full.letters(0x6100), OUTSIDE);
        c.looks(full, "no letters behind 64", () -> full.letters(0), 64);
    }

    // ---- promise 3

    /** "THE PAGE is empty: how many letters it had": none, one, all. */
    private static void blankOfNoneAndAll() {
        RammedCobbles x = new RammedCobbles();
        c.looks(x, "blank() of none", x::blank, 0);
        x.letters('a');
        c.due("blank() of one", x.blank(), 1);
        Checks.write(x, "x".repeat(64));
        c.due("blank() of 64", x.blank(), 64);
        c.looks(x, "blank() again", x::blank, 0);
        Checks.write(x, "y".repeat(64));
        c.due("a page once blank takes 64 again", x.count(4), 64);
        RammedCobbles y = Checks.streetOf("s1l2/k3.", "0x9");
        y.heap(3);
        long before = y.digest();
        Checks.write(y, "abc");
        y.blank();
        c.due("blank() leaves the rest", y.digest(), before);
    }

    // ---- promise 4

    /** "how many letters it has, if there is none": of an empty page and a full one; "OUTSIDE". */
    private static void faultOfNoneAndAll() {
        RammedCobbles none = new RammedCobbles();
        c.looks(none, "fault(0) of none", () -> none.fault(0), 0);
        c.looks(none, "fault(1) of none", () -> none.fault(1), 0);
        RammedCobbles full = pageOf(FULL_STREET);
        c.looks(full, "fault(0) of a full page", () -> full.fault(0), 64);
        c.looks(full, "fault(1) of a full page", () -> full.fault(1), 0);
        RammedCobbles last = pageOf(FULL_STREET.substring(0, 63) + "0");
        c.looks(last, "fault(0) in the last place of a full page", () -> last.fault(0), 63);
        RammedCobbles carts = pageOf("0x11,1x12,2x13,3x14,4x15,5x16" + "x".repeat(35));
        c.looks(carts, "fault(1) behind six carts on a full page", () -> carts.fault(1), 29);
        for (int sort : new int[] {Integer.MIN_VALUE, -1, 2, Integer.MAX_VALUE}) {
            c.refuses(none, "fault(" + sort + ")", () -> none.fault(sort), OUTSIDE);
            c.refuses(full, "fault(" + sort + ")", () -> full.fault(sort), OUTSIDE);
        }
    }

    /** "behind those ahead of it": those of THE PAGE, not what was read of it before; each page is asked twice. */
    private static void faultAskedAgain() {
        asksAgain(0, "s1o2/k3l4", 1, 2, 3, 4, 5, 6, 7, 8, 9);
        asksAgain(0, "s1o2/k3/", 1, 2, 3, 4, 5, 6, 7, 7);
        asksAgain(1, "0x12,3x45", 1, 2, 3, 4, 5, 6, 7, 8, 9);
        asksAgain(1, "0x12,3x0", 1, 2, 3, 4, 5, 6, 7, 7);
    }

    private static void asksAgain(int sort, String text, int... want) {
        RammedCobbles x = new RammedCobbles();
        for (int i = 0; i < text.length(); i++) {
            x.letters(text.charAt(i));
            String told = "fault(" + sort + ") of " + text.substring(0, i + 1);
            c.looks(x, told, () -> x.fault(sort), want[i]);
            c.looks(x, told + " again", () -> x.fault(sort), want[i]);
            c.looks(x, told + " by the other sort", () -> x.fault(1 - sort), 0);
        }
    }

    /** Behind those ahead of it, each letter of all is taken as a next one or is the fault. */
    private static void nextOnes(int sort, String ahead, String taken) {
        for (int code = 1; code <= 126; code++) {
            RammedCobbles x = pageOf(ahead);
            x.letters(code);
            int want = ahead.length() + (taken.indexOf(code) >= 0 ? 1 : 0);
            c.due("fault(" + sort + ") of " + ahead + " and letter " + code, x.fault(sort), want);
        }
    }

    private static void everyLetterOfAStreet() {
        String cell = ".soltk";
        String size = "123456789";
        nextOnes(0, "", cell);
        nextOnes(0, "s", size);
        nextOnes(0, "s1o", size);
        nextOnes(0, "../l", size);
        nextOnes(0, "../.t", size);
        nextOnes(0, ".....k", size);
        nextOnes(0, ".", cell);
        nextOnes(0, "s1", cell);
        nextOnes(0, "..", cell + "/");
        nextOnes(0, ".....", cell + "/");
        nextOnes(0, "......", "/");
        nextOnes(0, "../", cell);
        nextOnes(0, "../.", cell);
        nextOnes(0, "../..", "/");
        nextOnes(0, ".../..", cell);
        nextOnes(0, "....../.....", cell);
        nextOnes(0, "....../......", "/");
        nextOnes(0, "../../../..", "/");
        nextOnes(0, "../../../../", cell);
        nextOnes(0, "../../../../..", "");
        nextOnes(0, "s1s1s1s1s1s1/k1k1k1k1k1k1", "/");
        nextOnes(0, FULL_STREET.substring(0, 63), size);
    }

    private static void everyLetterOfCarts() {
        nextOnes(1, "", DIGITS);
        nextOnes(1, "0", "x");
        nextOnes(1, "9", "x");
        nextOnes(1, "0x", "123456789");
        nextOnes(1, "0x1", DIGITS + ",");
        nextOnes(1, "9x9", DIGITS + ",");
        nextOnes(1, "0x10", ",");
        nextOnes(1, "9x99", ",");
        nextOnes(1, "0x1,", DIGITS);
        nextOnes(1, "0x99,5", "x");
        nextOnes(1, "1x1,2x2,3x3,4x4,5x5", DIGITS + ",");
        nextOnes(1, "1x1,2x2,3x3,4x4,5x5,", DIGITS);
        nextOnes(1, "1x1,2x2,3x3,4x4,5x5,6x6", DIGITS);
        nextOnes(1, "1x1,2x2,3x3,4x4,5x5,6x66", "");
    }

    // ---- promise 5

    private static String rowsOf(int rows, int wide, String cell) {
        StringBuilder text = new StringBuilder();
        for (int row = 0; row < rows; row++) {
            text.append(row > 0 ? "/" : "").append(cell.repeat(wide));
        }
        return text.toString();
    }

    /** "two to five ROWS .. each of two to six CELLS." */
    private static void streetsOfAllMeasures() {
        for (int rows = 2; rows <= 5; rows++) {
            for (int wide = 2; wide <= 6; wide++) {
                for (String cell : new String[] {".", "s1", "k9"}) {
                    RammedCobbles x = pageOf(rowsOf(rows, wide, cell));
                    String told = rows + " rows of " + wide + " " + cell;
                    c.due(told, x.street(), rows * wide);
                    c.due(told + ": cells", x.count(0), rows * wide);
                    c.due(told + ": stones", x.count(1), cell.equals(".") ? 0 : rows * wide);
                    c.due(told + ": the page is empty", x.count(4), 0);
                    c.due(told + ": read once", x.count(6), 1);
                    c.due(told + ": the last row", x.worst(rows - 1), 1);
                    c.due(told + ": no row behind it", x.worst(rows), UNKNOWN);
                    c.due(told + ": the last cell", x.water(rows * wide - 1), 0);
                    c.due(told + ": no cell behind it", x.water(rows * wide), UNKNOWN);
                }
            }
        }
    }

    private static void noStreet(String text) {
        RammedCobbles x = pageOf(text);
        c.refuses(x, "street() of " + text, x::street, STATE);
        c.due("street() of " + text + ": its page stays", x.count(4), text.length());
    }

    private static void streetsOutOfMeasure() {
        noStreet("");
        for (int wide = 1; wide <= 7; wide++) {
            noStreet(rowsOf(1, wide, "."));
            noStreet(rowsOf(1, wide, "s1"));
            noStreet(rowsOf(6, wide, "."));
        }
        for (int rows = 1; rows <= 6; rows++) {
            noStreet(rowsOf(rows, 1, "s1"));
            noStreet(rowsOf(rows, 7, "."));
        }
        noStreet("/");
        noStreet("//");
        noStreet("/../..");
        noStreet("../../");
        noStreet("..//..");
        noStreet("../../..//");
        noStreet(" ../..");
        noStreet("../.. ");
        noStreet(".. /..");
    }

    /** "(all as many)": a row that is shorter or longer by one, in each place. */
    private static void rowsAsLong() {
        for (int odd = 0; odd < 4; odd++) {
            for (int by = -1; by <= 1; by += 2) {
                StringBuilder text = new StringBuilder();
                for (int row = 0; row < 4; row++) {
                    text.append(row > 0 ? "/" : "").append(".".repeat(row == odd ? 4 + by : 4));
                }
                noStreet(text.toString());
            }
        }
        noStreet("......./......");
        noStreet("../.");
        noStreet("./..");
    }

    /** "a letter and a SIZE (1 to 9)". */
    private static void sizesOfStones() {
        for (char kind : "soltk".toCharArray()) {
            for (int size = 1; size <= 9; size++) {
                RammedCobbles x = Checks.streetOf(".." + "/" + kind + size + ".");
                c.due("kind of " + kind + size, x.cell(2, 0), "soltk".indexOf(kind));
                c.due("size of " + kind + size, x.cell(2, 1), size);
            }
            noStreet("../" + kind + "0.");
            noStreet("../" + kind + "10.");
            noStreet("../" + kind + ".");
            noStreet("../." + kind);
            noStreet("../" + kind);
            noStreet("../" + kind + kind);
            noStreet("../" + Character.toUpperCase(kind) + "1.");
        }
        noStreet("../.1.");
        noStreet("../a1.");
        noStreet("../1s.");
    }

    /** All that a page holds is one street: 30 stones and 4 "/" are 64 letters. */
    private static void fullStreet() {
        RammedCobbles x = pageOf(FULL_STREET);
        c.due("a full page", x.count(4), 64);
        c.due("a full street", x.street(), 30);
        c.due("a full street: stones", x.count(1), 30);
        for (int cell = 0; cell < 30; cell++) {
            int place = 2 * cell + cell / 6;
            c.due("full: kind of " + cell, x.cell(cell, 0), "soltk".indexOf(FULL_STREET.charAt(place)));
            c.due("full: size of " + cell, x.cell(cell, 1), FULL_STREET.charAt(place + 1) - '0');
        }
        c.due("full: no cell 30", x.cell(30, 0), -1001);
    }

    /** "a HEIGHT (0; SAND -5 at first), SEAT and JOINT, 0 at first": also where there was another street. */
    private static void cellsAtFirst() {
        RammedCobbles x = Checks.streetOf("k1k1k1/k1s1k1/k1k1k1");
        x.set(40);
        x.grit(9);
        x.blow(4, 99);
        Checks.write(x, "..s1/l1t1k1");
        c.due("a smaller street", x.street(), 6);
        c.cells(x, "at first: kinds", 0, NONE, NONE, 0, 2, 3, 4);
        c.cells(x, "at first: sizes", 1, 0, 0, 1, 1, 1, 1);
        c.cells(x, "at first: heights", 2, -5, -5, 0, 0, 0, 0);
        c.cells(x, "at first: seats", 3, 0, 0, 0, 0, 0, 0);
        c.cells(x, "at first: joints", 4, 0, 0, 0, 0, 0, 0);
        c.cells(x, "at first: holds", 5, 0, 2, 3, 0, 3, 2);
        c.due("the rows of the other are gone", x.worst(2), UNKNOWN);
        c.due("the cells of the other are gone", x.as(6, 0), UNKNOWN);
        c.due("streets read", x.count(6), 2);
    }

    /** Neither street() that is refused nor fault(0) touches THE STREET that was read before. */
    private static void refusedStreetKeepsTheOther() {
        RammedCobbles x = Checks.streetOf("s1l2/k3.", "0x9");
        x.blow(0, 20);
        x.image();
        Checks.write(x, "../../");
        x.fault(0);
        c.refuses(x, "street() of a page that is none", x::street, STATE);
        c.due("the street that was stays: 20 by 7", x.cell(0, 2), -2);
        c.due("it was read once", x.count(6), 1);
        c.due("its image stays", x.restore(), 3);
    }

    // ---- promises 6 and 7

    private static void noCarts(String text) {
        RammedCobbles x = pageOf(text);
        c.refuses(x, "carts() of " + text, x::carts, STATE);
        c.due("carts() of " + text + ": its page stays", x.count(4), text.length());
    }

    /** "one to six with ',' between." */
    private static void cartsOfAllNumbers() {
        noCarts("");
        String text = "";
        for (int many = 1; many <= 6; many++) {
            text += (many > 1 ? "," : "") + many + "x" + many;
            RammedCobbles x = pageOf(text);
            c.due("carts() of " + text, x.carts(), many);
            c.due("carts() of " + text + ": count", x.count(2), many);
            c.due("carts() of " + text + ": the page is empty", x.count(4), 0);
            c.due("the last", x.cart(many - 1, 0), many);
            c.refuses(x, "none behind the last", () -> x.cart(x.count(2), 0), UNKNOWN);
            noCarts(text + ",");
            noCarts("," + text);
            noCarts(text + "," + 7);
            noCarts(text + "," + 7 + "x");
        }
        noCarts(text + ",7x7");
        noCarts("1x1,,2x2");
        noCarts("1x1 2x2");
        noCarts("1x12x2");
    }

    /** "each the number of a ROW (a digit)". */
    private static void rowsOfCarts() {
        for (int row = 0; row <= 9; row++) {
            RammedCobbles x = pageOf(row + "x5");
            c.due("cart of row " + row, x.carts(), 1);
            c.due("cart of row " + row + ": ROW", x.cart(0, 0), row);
        }
        noCarts("x5");
        noCarts("00x5");
        noCarts("10x5");
        noCarts("-1x5");
        noCarts("ax5");
        noCarts("/x5");
        noCarts(":x5");
    }

    /** "a LOAD (1 to 99, without a 0 ahead)". */
    private static void loadsOfCarts() {
        for (int load = 1; load <= 99; load++) {
            RammedCobbles x = pageOf("0x" + load);
            c.due("cart of load " + load, x.carts(), 1);
            c.due("cart of load " + load + ": LOAD", x.cart(0, 1), load);
        }
        for (String load : new String[] {"", "0", "00", "01", "09", "100", "101", "999", "/", ":", "1:", "1/", "-1"}) {
            noCarts("0x" + load);
            noCarts("0x9,1x" + load);
        }
        noCarts("05");
        noCarts("0X5");
        noCarts("0xx5");
    }

    /** Neither carts() that is refused nor fault(1) touches the CARTS that were read before. */
    private static void refusedCartsKeepTheOthers() {
        RammedCobbles x = Checks.streetOf("s1l2/k3.", "0x98,1x7");
        for (String none : new String[] {"2x99,3x", "2x0", "1x1,2x2,3x3,4x4,5x5,6x6,7x7"}) {
            x.blank();
            Checks.write(x, none);
            c.refuses(x, "carts() of " + none, x::carts, STATE);
            x.fault(1);
            c.due("those that were stay", x.count(2), 2);
            c.due("the first's row stays", x.cart(0, 0), 0);
            c.due("the first's load stays", x.cart(0, 1), 98);
            c.due("the second's row stays", x.cart(1, 0), 1);
            c.due("the second's load stays", x.cart(1, 1), 7);
        }
        x.blank();
        Checks.write(x, "9x1");
        c.due("others", x.carts(), 1);
        c.due("the other's row", x.cart(0, 0), 9);
        c.due("the other's load is its own", x.cart(0, 1), 1);
        c.due("those before are gone", x.cart(1, 1), UNKNOWN);
        c.due("the street stays", x.count(0), 4);
    }

    private static void cartsByNumber() {
        RammedCobbles x = pageOf("0x1,9x99,5x10");
        x.carts();
        int[] told = {0, 1, 9, 99, 5, 10};
        for (int i = 0; i < 6; i++) {
            int cart = i / 2;
            int what = i % 2;
            c.looks(x, "cart(" + cart + ", " + what + ")", () -> x.cart(cart, what), told[i]);
        }
        for (int cart : new int[] {Integer.MIN_VALUE, -1, 3, 5, 6, Integer.MAX_VALUE}) {
            c.refuses(x, "cart(" + cart + ", 0)", () -> x.cart(cart, 0), UNKNOWN);
            c.refuses(x, "cart(" + cart + ", 2): UNKNOWN is told first", () -> x.cart(cart, 2), UNKNOWN);
        }
        for (int what : new int[] {Integer.MIN_VALUE, -1, 2, Integer.MAX_VALUE}) {
            c.refuses(x, "cart(2, " + what + ")", () -> x.cart(2, what), OUTSIDE);
        }
    }

    // ---- promises 8 and 9

    /** "BESIDE a CELL are those up, right, down, left of it": the end of a ROW is not beside the next one's first. */
    private static void besideEndsAtTheRim() {
        RammedCobbles x = Checks.streetOf("..k1/k1../..k1/k1..");
        c.cells(x, "holds by kerbs at the ends of rows", 5, 3, 3, 0, 0, 3, 6, 6, 3, 0, 0, 3, 3);
        RammedCobbles one = Checks.streetOf(".../.k1./...");
        c.cells(one, "holds about one kerb: not across corners", 5, 0, 3, 0, 3, 0, 3, 0, 3, 0);
        RammedCobbles corner = Checks.streetOf("k1./..");
        c.cells(corner, "holds about a corner", 5, 0, 3, 3, 0);
        RammedCobbles last = Checks.streetOf("../.k1");
        c.cells(last, "holds about the last corner", 5, 0, 3, 3, 0);
    }

    /** Four kerbs of GRIP 3 and a JOINT of 9 are the most that HOLD can be; none and 0 the least. */
    private static void holdAtMost() {
        RammedCobbles x = Checks.streetOf("k1k1k1/k1s1k1/k1k1k1");
        c.due("hold by four kerbs", x.cell(4, 5), 12);
        x.grit(9);
        c.due("hold by four kerbs and grit 9", x.cell(4, 5), 21);
        RammedCobbles y = Checks.streetOf(".l1./t1s1l1/.t1.");
        c.due("hold by loose and tilted ones", y.cell(4, 5), 0);
        c.due("hold by a stone and sand", y.cell(1, 5), 2);
        RammedCobbles z = Checks.streetOf(".s1./o1.k1/.s1.");
        c.due("hold of sand", z.cell(4, 5), 8);
    }

    /** "All are STONES; a TILTED is LOOSE, too"; "NONE: it is none such, or SAND". */
    private static void castsOfKinds() {
        RammedCobbles x = Checks.streetOf("t1k2/.l3");
        int[][] want = {{0, NONE, 0, 0, NONE}, {1, NONE, NONE, NONE, 1}, {NONE, NONE, NONE, NONE, NONE},
            {3, NONE, 3, NONE, NONE}};
        for (int cell = 0; cell < 4; cell++) {
            for (int kind = 0; kind <= 4; kind++) {
                int at = cell;
                int as = kind;
                c.looks(x, "as(" + cell + ", " + kind + ")", () -> x.as(at, as), want[cell][kind]);
            }
        }
        x.mend(2, 1);
        c.due("an odd one as a stone", x.as(2, 0), 2);
        c.due("an odd one as an odd one", x.as(2, 1), 2);
        c.due("an odd one as a loose one", x.as(2, 2), NONE);
        x.mend(0, 1);
        c.due("a mended one is no longer tilted", x.as(0, 3), NONE);
        c.due("nor loose", x.as(0, 2), NONE);
    }
}
