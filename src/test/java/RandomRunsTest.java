import java.util.Random;

/** Runs of calls by fixed seeds, right and wrong ones, each answer and the digest behind it compared with Model's. */
public final class RandomRunsTest {
    private static final int RUNS = 250;
    /** An object is used for 512 calls; reading a text takes 11 at most, and each is followed by a digest. */
    private static final int MOST_CALLS = 512, AHEAD_OF_THE_LAST = 500;
    private static final int[] FAR = {-1, Integer.MIN_VALUE, Integer.MAX_VALUE, 1000000, -1001, 31};
    private static final Checks c = new Checks("RandomRunsTest");

    private final Random random;
    private final int run;
    private final RammedCobbles x = new RammedCobbles();
    private final Model m = new Model();
    private int calls = 0;

    private RandomRunsTest(int run) {
        this.run = run;
        this.random = new Random(run);
    }

    public static void main(String[] args) {
        for (int run = 0; run < RUNS; run++) {
            new RandomRunsTest(run).go();
        }
        c.end();
    }

    private void go() {
        if (random.nextInt(10) > 0) {
            readStreet();
            readCarts();
        }
        while (calls < AHEAD_OF_THE_LAST) {
            callOne();
            due("digest()", x.digest(), m.digest());
        }
        while (calls < MOST_CALLS) {
            due("digest()", x.digest(), m.digest());
        }
    }

    private void due(String call, long got, long want) {
        calls++;
        c.due("run " + run + ", call " + calls + ": " + call, got, want);
    }

    /** Mostly a number from least to most, often one of these two, sometimes one just outside, or one far off. */
    private int pick(int least, int most) {
        int luck = random.nextInt(60);
        if (luck == 0) {
            return FAR[random.nextInt(FAR.length)];
        }
        if (luck < 3) {
            return luck == 1 ? least - 1 : most + 1;
        }
        if (luck < 10) {
            return luck < 6 ? least : most;
        }
        return least + random.nextInt(most - least + 1);
    }

    private int cell() {
        return pick(0, Math.max(0, m.count(0) - 1));
    }

    private void put(String text) {
        for (int i = 0; i < text.length(); i += 8) {
            long w = Checks.packed(text.substring(i, Math.min(text.length(), i + 8)));
            due("letters(" + w + ")", x.letters(w), m.letters(w));
        }
    }

    /** Now and then a letter of a text is put, lost or another one. */
    private String spoiled(String text) {
        if (random.nextInt(4) > 0 || text.isEmpty()) {
            return text;
        }
        int at = random.nextInt(text.length());
        String other = "" + "soltk.19/0x,~ S".charAt(random.nextInt(15));
        switch (random.nextInt(3)) {
            case 0:
                return text.substring(0, at) + other + text.substring(at);
            case 1:
                return text.substring(0, at) + text.substring(at + 1);
            default:
                return text.substring(0, at) + other + text.substring(at + 1);
        }
    }

    private String streetText() {
        int rows = 2 + random.nextInt(4);
        int wide = 2 + random.nextInt(5);
        String kinds = random.nextBoolean() ? "ssssookkk" : "soltks.solt";
        // What lies inside sinks below a rim of kerbs: WATER stands there.
        boolean isHollow = random.nextInt(3) == 0;
        int mostSize = 1 + random.nextInt(9);
        StringBuilder text = new StringBuilder();
        for (int i = 0; i < rows * wide; i++) {
            boolean atRim = i < wide || i >= (rows - 1) * wide || i % wide == 0 || i % wide == wide - 1;
            char kind = isHollow && atRim ? 'k' : kinds.charAt(random.nextInt(kinds.length()));
            text.append(i > 0 && i % wide == 0 ? "/" : "").append(kind);
            text.append(kind == '.' ? "" : 1 + random.nextInt(mostSize));
        }
        return text.toString();
    }

    private String cartsText() {
        StringBuilder text = new StringBuilder();
        int many = 1 + random.nextInt(6);
        for (int i = 0; i < many; i++) {
            text.append(i > 0 ? "," : "").append(random.nextInt(6)).append('x').append(1 + random.nextInt(99));
        }
        return text.toString();
    }

    private void readStreet() {
        due("blank()", x.blank(), m.blank());
        put(spoiled(streetText()));
        due("fault(0)", x.fault(0), m.fault(0));
        due("street()", x.street(), m.street());
    }

    private void readCarts() {
        due("blank()", x.blank(), m.blank());
        put(spoiled(cartsText()));
        due("fault(1)", x.fault(1), m.fault(1));
        due("carts()", x.carts(), m.carts());
    }

    private void callOne() {
        int a = cell();
        int weight = pick(1, 99);
        int order = pick(0, 3);
        int frost = pick(0, 10);
        switch (random.nextInt(40)) {
            case 0:
                long w = random.nextInt(3) > 0 ? random.nextInt(127) | random.nextInt(127) << 8 : random.nextLong();
                due("letters(" + w + ")", x.letters(w), m.letters(w));
                return;
            case 1:
                if (random.nextInt(4) == 0) {
                    readStreet();
                }
                return;
            case 2:
                readCarts();
                return;
            case 3:
                int sort = pick(0, 1);
                due("fault", x.fault(sort), m.fault(sort));
                return;
            case 4:
                int cart = pick(0, 5);
                int told = pick(0, 1);
                due("cart", x.cart(cart, told), m.cart(cart, told));
                return;
            case 5:
                int what = pick(0, 5);
                due("cell", x.cell(a, what), m.cell(a, what));
                return;
            case 6:
                int kind = pick(0, 4);
                due("as", x.as(a, kind), m.as(a, kind));
                return;
            case 7:
                int height = pick(0, 40);
                due("set", x.set(height), m.set(height));
                return;
            case 8:
                int v = pick(0, 9);
                due("grit", x.grit(v), m.grit(v));
                return;
            case 9:
                int few = pick(1, random.nextInt(4) == 0 ? 40 : 3);
                due("ram", x.ram(weight, few, order), m.ram(weight, few, order));
                return;
            case 10:
                due("rings", x.rings(weight), m.rings(weight));
                return;
            case 11:
                int rounds = pick(0, 40);
                due("proud", x.proud(a, weight, rounds, order), m.proud(a, weight, rounds, order));
                return;
            case 12:
                due("until", x.until(weight, order), m.until(weight, order));
                return;
            case 13:
                due("uneven", x.uneven(), m.uneven());
                return;
            case 14:
                int turns = pick(0, 40);
                due("evenest", x.evenest(weight, turns), m.evenest(weight, turns));
                return;
            case 15:
            case 16:
            case 17:
            case 18:
                due("blow", x.blow(a, weight), m.blow(a, weight));
                return;
            default:
                callOther(a, frost);
        }
    }

    private void callOther(int a, int frost) {
        int size = pick(1, 9);
        int few = pick(1, random.nextInt(5) == 0 ? 20 : 3);
        int part = pick(0, 1);
        int row = pick(0, 4);
        switch (random.nextInt(20)) {
            case 0:
                int load = pick(1, 9999);
                int by = cell();
                due("borne", x.borne(a, load, by), m.borne(a, load, by));
                return;
            case 1:
                int laid = pick(1, 9999);
                due("bearer", x.bearer(a, laid), m.bearer(a, laid));
                return;
            case 2:
                due("water", x.water(a), m.water(a));
                return;
            case 3:
                int v = random.nextBoolean() ? random.nextInt() : pick(0, Integer.MAX_VALUE - 1);
                due("seed", x.seed(v), m.seed(v));
                return;
            case 4:
            case 5:
            case 6:
                due("years", x.years(few, frost), m.years(few, frost));
                return;
            case 7:
                due("would", x.would(few, frost), m.would(few, frost));
                return;
            case 8:
            case 9:
            case 10:
                due("mend", x.mend(a, size), m.mend(a, size));
                return;
            case 11:
                int k = pick(1, 4);
                due("first", x.first(k, few, frost, part), m.first(k, few, frost, part));
                return;
            case 12:
                int depth = pick(1, 99);
                int beats = pick(0, 9);
                int years = pick(0, 99);
                due("trench", x.trench(depth, beats, years), m.trench(depth, beats, years));
                return;
            case 13:
                due("heap", x.heap(size), m.heap(size));
                return;
            case 14:
                int hole = pick(0, 90);
                due("fits", x.fits(hole, part), m.fits(hole, part));
                return;
            case 15:
                int n = pick(1, 99);
                int wide = pick(1, 99);
                int swell = pick(0, 200);
                due("gaps", x.gaps(n, wide, swell), m.gaps(n, wide, swell));
                return;
            case 16:
                int speed = pick(1, 5);
                due("shake", x.shake(row, speed, part), m.shake(row, speed, part));
                due("worst", x.worst(row), m.worst(row));
                return;
            case 17:
                due("image", x.image(), m.image());
                return;
            case 18:
                due("restore", x.restore(), m.restore());
                return;
            default:
                int what = pick(0, 7);
                due("count", x.count(what), m.count(what));
        }
    }
}
