import java.util.ArrayList;
import java.util.List;
import java.util.TreeSet;
import java.util.function.BiPredicate;

/**
 * Each refusal of each call that takes numbers or none, in each Scene: every argument takes the last number that is
 * taken and the first that is refused on both sides, and the least and the greatest int, in all mixtures. Due is the
 * first refusal as the call tells them, and that nothing has changed behind it, the image neither; where the document
 * tells none, the call is taken.
 */
public final class RefusalsTest {
    private static final int UNKNOWN = -101, OUTSIDE = -102, STATE = -103, FULL = -104;
    private static final int LEAST = Integer.MIN_VALUE, GREATEST = Integer.MAX_VALUE;
    /** An object is used for 512 calls; a scene takes 60 of them at most. */
    private static final int MOST_CALLS = 400;
    private static final Checks c = new Checks("RefusalsTest");

    /** When a call tells a refusal. */
    private record Rule(int answer, BiPredicate<Scene, int[]> refuses) {
    }

    private interface Asking {
        long ask(RammedCobbles x, int[] a);
    }

    /** An argument is told by the least and the most that is taken; a CELL by nothing. */
    private record Call(String name, Asking asking, int[][] arguments, Rule... rules) {
    }

    private static final int[] CELL = {};
    private static final int[] ROW = {0, 4}, CART = {0, 5};
    private static final int[] WEIGHT = {1, 99}, ORDER = {0, 3}, LOAD = {1, 9999}, YEARS = {1, 20}, FROST = {0, 10};
    private static final int[] SIZE = {1, 9}, TWO = {0, 1};

    private static final Rule NO_STREET = new Rule(STATE, (s, a) -> !s.hasStreet());
    private static final Rule NO_CARTS = new Rule(STATE, (s, a) -> s.carts() == 0);
    private static final Rule NO_STONE = new Rule(UNKNOWN, (s, a) -> !s.isStone(a[0]));
    private static final Rule NO_ROW = new Rule(UNKNOWN, (s, a) -> a[0] < 0 || a[0] >= s.rows());

    private final Scene scene;
    private final Call call;
    private final long digest;
    private RammedCobbles x;
    private int calls;

    private RefusalsTest(Scene scene, Call call) {
        this.scene = scene;
        this.call = call;
        this.digest = scene.make().get().digest();
    }

    public static void main(String[] args) {
        List<Call> calls = new ArrayList<>();
        calls.addAll(ofTexts());
        calls.addAll(ofRamming());
        calls.addAll(ofYears());
        calls.addAll(ofTrenches());
        calls.addAll(ofAll());
        for (Scene scene : Scene.all()) {
            sceneIsAsTold(scene);
            for (Call call : calls) {
                new RefusalsTest(scene, call).go();
            }
        }
        c.end();
    }

    // ---- the calls, each with its refusals in the order that the document tells

    private static Rule outside(int argument, int... bounds) {
        return new Rule(OUTSIDE, (s, a) -> a[argument] < bounds[0] || a[argument] > bounds[1]);
    }

    private static Rule noCell(int argument) {
        return new Rule(UNKNOWN, (s, a) -> !s.isCell(a[argument]));
    }

    private static int[][] taking(int[]... arguments) {
        return arguments;
    }

    private static List<Call> ofTexts() {
        return List.of(
                new Call("fault", (x, a) -> x.fault(a[0]), taking(TWO), outside(0, TWO)),
                new Call("cart", (x, a) -> x.cart(a[0], a[1]), taking(CART, TWO),
                        new Rule(UNKNOWN, (s, a) -> a[0] < 0 || a[0] >= s.carts()), outside(1, TWO)),
                new Call("cell", (x, a) -> x.cell(a[0], a[1]), taking(CELL, new int[] {0, 5}),
                        new Rule(-1001, (s, a) -> !s.isCell(a[0])), new Rule(-1002, (s, a) -> a[1] < 0 || a[1] > 5)),
                new Call("as", (x, a) -> x.as(a[0], a[1]), taking(CELL, new int[] {0, 4}),
                        noCell(0), outside(1, 0, 4)));
    }

    private static List<Call> ofRamming() {
        int[] height = {0, 40};
        int[] joint = {0, 9};
        int[] roundsToGo = {1, 40};
        int[] rounds = {0, 40};
        return List.of(
                new Call("set", (x, a) -> x.set(a[0]), taking(height), NO_STREET, outside(0, height)),
                new Call("grit", (x, a) -> x.grit(a[0]), taking(joint), NO_STREET, outside(0, joint)),
                new Call("blow", (x, a) -> x.blow(a[0], a[1]), taking(CELL, WEIGHT), NO_STONE, outside(1, WEIGHT)),
                new Call("ram", (x, a) -> x.ram(a[0], a[1], a[2]), taking(WEIGHT, roundsToGo, ORDER),
                        NO_STREET, outside(0, WEIGHT), outside(1, roundsToGo), outside(2, ORDER)),
                new Call("rings", (x, a) -> x.rings(a[0]), taking(WEIGHT), NO_STREET, outside(0, WEIGHT)),
                new Call("proud", (x, a) -> x.proud(a[0], a[1], a[2], a[3]), taking(CELL, WEIGHT, rounds, ORDER),
                        NO_STONE, outside(1, WEIGHT), outside(2, rounds), outside(3, ORDER)),
                new Call("until", (x, a) -> x.until(a[0], a[1]), taking(WEIGHT, ORDER),
                        NO_STREET, outside(0, WEIGHT), outside(1, ORDER)),
                new Call("uneven", (x, a) -> x.uneven(), taking(), NO_STREET),
                new Call("evenest", (x, a) -> x.evenest(a[0], a[1]), taking(WEIGHT, rounds),
                        NO_STREET, outside(0, WEIGHT), outside(1, rounds)));
    }

    private static List<Call> ofYears() {
        int[] k = {1, 4};
        return List.of(
                new Call("borne", (x, a) -> x.borne(a[0], a[1], a[2]), taking(CELL, LOAD, CELL),
                        noCell(0), noCell(2), outside(1, LOAD)),
                new Call("bearer", (x, a) -> x.bearer(a[0], a[1]), taking(CELL, LOAD), noCell(0), outside(1, LOAD)),
                new Call("water", (x, a) -> x.water(a[0]), taking(CELL), noCell(0)),
                new Call("seed", (x, a) -> x.seed(a[0]), taking(new int[] {0, GREATEST}), outside(0, 0, GREATEST)),
                new Call("years", (x, a) -> x.years(a[0], a[1]), taking(YEARS, FROST),
                        NO_STREET, NO_CARTS, outside(0, YEARS), outside(1, FROST)),
                new Call("would", (x, a) -> x.would(a[0], a[1]), taking(YEARS, FROST),
                        NO_STREET, NO_CARTS, outside(0, YEARS), outside(1, FROST)),
                new Call("mend", (x, a) -> x.mend(a[0], a[1]), taking(CELL, SIZE),
                        noCell(0), outside(1, SIZE), new Rule(STATE, (s, a) -> !s.canBeMended(a[0]))),
                new Call("first", (x, a) -> x.first(a[0], a[1], a[2], a[3]), taking(k, YEARS, FROST, TWO),
                        NO_STREET, NO_CARTS, outside(0, k), outside(1, YEARS), outside(2, FROST), outside(3, TWO),
                        new Rule(STATE, (s, a) -> s.mendable() < a[0] || s.firsts() == 20)));
    }

    private static List<Call> ofTrenches() {
        int[] depth = {1, 99};
        int[] beats = {0, 9};
        int[] years = {0, 99};
        int[] hole = {0, 90};
        int[] swell = {0, 200};
        int[] speed = {1, 5};
        return List.of(
                new Call("trench", (x, a) -> x.trench(a[0], a[1], a[2]), taking(depth, beats, years),
                        outside(0, depth), outside(1, beats), outside(2, years)),
                new Call("heap", (x, a) -> x.heap(a[0]), taking(SIZE),
                        outside(0, SIZE), new Rule(FULL, (s, a) -> s.heap() == 10)),
                new Call("fits", (x, a) -> x.fits(a[0], a[1]), taking(hole, TWO), outside(0, hole), outside(1, TWO)),
                new Call("gaps", (x, a) -> x.gaps(a[0], a[1], a[2]), taking(depth, depth, swell),
                        outside(0, 1, 99), outside(1, 1, 99), outside(2, swell)),
                new Call("shake", (x, a) -> x.shake(a[0], a[1], a[2]), taking(ROW, speed, TWO),
                        NO_ROW, outside(1, speed), outside(2, TWO)),
                new Call("worst", (x, a) -> x.worst(a[0]), taking(ROW), NO_ROW));
    }

    private static List<Call> ofAll() {
        return List.of(
                new Call("image", (x, a) -> x.image(), taking(), NO_STREET),
                new Call("restore", (x, a) -> x.restore(), taking(), new Rule(STATE, (s, a) -> !s.hasImage())),
                new Call("count", (x, a) -> x.count(a[0]), taking(new int[] {0, 7}), outside(0, 0, 7)));
    }

    // ---- the mixtures

    private void go() {
        begin();
        mix(new int[call.arguments().length], 0);
        imageIsAsAtFirst();
    }

    private void begin() {
        x = scene.make().get();
        calls = 0;
    }

    private void mix(int[] a, int argument) {
        if (argument == a.length) {
            ask(a);
            return;
        }
        for (int v : numbersFor(call.arguments()[argument])) {
            a[argument] = v;
            mix(a, argument + 1);
        }
    }

    /** Both sides of each bound; of CELLS, ROWS and CARTS the bound of the scene is among them, too. */
    private TreeSet<Integer> numbersFor(int[] argument) {
        TreeSet<Integer> numbers = new TreeSet<>(List.of(LEAST, GREATEST));
        if (argument == CELL) {
            for (int cell = -1; cell <= scene.kinds().length(); cell += cell < 9 ? 1 : 4) {
                numbers.add(cell);
            }
            numbers.addAll(List.of(scene.kinds().length() - 1, scene.kinds().length()));
            return numbers;
        }
        numbers.addAll(List.of(argument[0] - 1, argument[0], argument[1], argument[1] + 1));
        if (argument == ROW) {
            numbers.addAll(List.of(scene.rows() - 1, scene.rows()));
        }
        if (argument == CART) {
            numbers.addAll(List.of(scene.carts() - 1, scene.carts()));
        }
        return numbers;
    }

    private void ask(int[] a) {
        long got = call.asking().ask(x, a);
        calls++;
        for (Rule rule : call.rules()) {
            if (rule.refuses().test(scene, a)) {
                c.due(told(a), got, rule.answer());
                c.due(told(a) + " changes nothing", x.digest(), digest);
                calls++;
                if (calls > MOST_CALLS) {
                    imageIsAsAtFirst();
                    begin();
                }
                return;
            }
        }
        c.due(told(a) + " is taken", got > UNKNOWN ? 1 : 0, 1);
        begin();
    }

    private String told(int[] a) {
        StringBuilder text = new StringBuilder(scene.name()).append(": ").append(call.name());
        for (int v : a) {
            text.append(' ').append(v);
        }
        return text.toString();
    }

    /** The digest tells nothing of the IMAGE: what restore() brings back does. */
    private void imageIsAsAtFirst() {
        RammedCobbles other = scene.make().get();
        c.due(scene.name() + ": " + call.name() + " refused, then restore()", x.restore(), other.restore());
        c.due(scene.name() + ": " + call.name() + " refused, then restored", x.digest(), other.digest());
    }

    /** The table of scenes itself: what it says of each is so. */
    private static void sceneIsAsTold(Scene scene) {
        RammedCobbles x = scene.make().get();
        c.due(scene.name() + ": cells", x.count(0), scene.kinds().length());
        c.due(scene.name() + ": carts", x.count(2), scene.carts());
        c.due(scene.name() + ": heap", x.count(3), scene.heap());
        c.due(scene.name() + ": firsts", x.count(7), scene.firsts());
        for (int cell = 0; cell < scene.kinds().length(); cell++) {
            c.due(scene.name() + ": kind of " + cell, x.cell(cell, 0), "soltk".indexOf(scene.kinds().charAt(cell)));
        }
    }
}
