import java.math.BigInteger;
import java.util.ArrayList;
import java.util.Comparator;
import java.util.List;
import java.util.Map;
import java.util.TreeMap;
import java.util.TreeSet;
import java.util.regex.Matcher;
import java.util.regex.Pattern;

/** The document written a second time, slowly and in other ways, for RandomRunsTest to compare with. */
final class Model {
    private static final int NONE = -1, UNKNOWN = -101, OUTSIDE = -102, STATE = -103, FULL = -104;
    private static final String LETTERS = "soltk";
    private static final int[] GRIPS = {2, 1, 0, 0, 3};
    private static final Pattern STREET = Pattern.compile(streetPattern());
    private static final Pattern CARTS = Pattern.compile("[0-9]x[1-9][0-9]?(,[0-9]x[1-9][0-9]?){0,5}");

    private static final class Cell {
        int kind = NONE;
        int size = 0;
        int height = -5;
        int seat = 0;
        int joint = 0;

        Cell copy() {
            Cell other = new Cell();
            other.kind = kind;
            other.size = size;
            other.height = height;
            other.seat = seat;
            other.joint = joint;
            return other;
        }

        boolean isStone() {
            return kind != NONE;
        }

        int grip() {
            return isStone() ? GRIPS[kind] : 0;
        }
    }

    private String page = "";
    private Cell[][] grid = null;
    private List<int[]> carts = List.of();
    private final List<Integer> heap = new ArrayList<>();
    private long seed = 1;
    private Cell[][] imageGrid = null;
    private long imageSeed = 0;
    private int streets = 0;
    private int firsts = 0;

    private static String streetPattern() {
        StringBuilder all = new StringBuilder();
        for (int wide = 2; wide <= 6; wide++) {
            String row = "([.]|[soltk][1-9]){" + wide + "}";
            all.append(wide > 2 ? "|" : "").append(row).append("(/").append(row).append("){1,4}");
        }
        return all.toString();
    }

    private static boolean in(int v, int least, int most) {
        return v >= least && v <= most;
    }

    // ---- texts

    int letters(long w) {
        StringBuilder more = new StringBuilder();
        boolean ended = false;
        for (int i = 0; i < 8; i++) {
            int code = (int) Math.floorMod(w >> 8 * i, 256L);
            if (code > 126 || ended && code != 0) {
                return OUTSIDE;
            }
            ended = code == 0;
            if (!ended) {
                more.append((char) code);
            }
        }
        if (page.length() + more.length() > 64) {
            return FULL;
        }
        page += more;
        return page.length();
    }

    int blank() {
        int had = page.length();
        page = "";
        return had;
    }

    int fault(int sort) {
        if (!in(sort, 0, 1)) {
            return OUTSIDE;
        }
        int place = 0;
        while (place < page.length()) {
            Matcher matcher = (sort == 0 ? STREET : CARTS).matcher(page.substring(0, place + 1));
            if (!matcher.matches() && !matcher.hitEnd()) {
                return place;
            }
            place++;
        }
        return place;
    }

    int street() {
        if (!STREET.matcher(page).matches()) {
            return STATE;
        }
        String[] rows = page.split("/");
        grid = new Cell[rows.length][];
        for (int row = 0; row < rows.length; row++) {
            List<Cell> cells = new ArrayList<>();
            for (String told : rows[row].split("(?<=[.1-9])")) {
                Cell cell = new Cell();
                if (!told.equals(".")) {
                    cell.kind = LETTERS.indexOf(told.charAt(0));
                    cell.size = told.charAt(1) - '0';
                    cell.height = 0;
                }
                cells.add(cell);
            }
            grid[row] = cells.toArray(new Cell[0]);
        }
        page = "";
        streets++;
        imageGrid = null;
        return cells();
    }

    int carts() {
        if (!CARTS.matcher(page).matches()) {
            return STATE;
        }
        carts = new ArrayList<>();
        for (String told : page.split(",")) {
            String[] parts = told.split("x");
            carts.add(new int[] {Integer.parseInt(parts[0]), Integer.parseInt(parts[1])});
        }
        page = "";
        return carts.size();
    }

    int cart(int cart, int what) {
        if (!in(cart, 0, carts.size() - 1)) {
            return UNKNOWN;
        }
        return in(what, 0, 1) ? carts.get(cart)[what] : OUTSIDE;
    }

    int cell(int cell, int what) {
        if (!isCell(cell)) {
            return -1001;
        }
        Cell one = at(grid, cell);
        int[] told = {one.kind, one.size, one.height, one.seat, one.joint, hold(grid, cell)};
        return in(what, 0, 5) ? told[what] : -1002;
    }

    int as(int cell, int kind) {
        if (!isCell(cell)) {
            return UNKNOWN;
        }
        if (!in(kind, 0, 4)) {
            return OUTSIDE;
        }
        int own = at(grid, cell).kind;
        List<List<Integer>> kinds = List.of(List.of(0), List.of(0, 1), List.of(0, 2), List.of(0, 2, 3), List.of(0, 4));
        return own != NONE && kinds.get(own).contains(kind) ? cell : NONE;
    }

    // ---- the street

    private int cells() {
        return grid == null ? 0 : grid.length * grid[0].length;
    }

    private boolean isCell(int cell) {
        return in(cell, 0, cells() - 1);
    }

    private boolean isStone(int cell) {
        return isCell(cell) && at(grid, cell).isStone();
    }

    private static Cell at(Cell[][] g, int cell) {
        return g[cell / g[0].length][cell % g[0].length];
    }

    private static Cell[][] copy(Cell[][] g) {
        Cell[][] other = new Cell[g.length][g[0].length];
        for (int row = 0; row < g.length; row++) {
            for (int column = 0; column < g[0].length; column++) {
                other[row][column] = g[row][column].copy();
            }
        }
        return other;
    }

    private static List<Integer> beside(Cell[][] g, int cell) {
        List<Integer> all = new ArrayList<>();
        int wide = g[0].length;
        for (int other = 0; other < g.length * wide; other++) {
            int rows = Math.abs(other / wide - cell / wide);
            int columns = Math.abs(other % wide - cell % wide);
            if (rows + columns == 1) {
                all.add(other);
            }
        }
        return all;
    }

    private static List<Integer> stones(Cell[][] g) {
        List<Integer> all = new ArrayList<>();
        for (int cell = 0; g != null && cell < g.length * g[0].length; cell++) {
            if (at(g, cell).isStone()) {
                all.add(cell);
            }
        }
        return all;
    }

    private static int hold(Cell[][] g, int cell) {
        return at(g, cell).joint + beside(g, cell).stream().mapToInt(n -> at(g, n).grip()).sum();
    }

    // ---- ramming

    int set(int height) {
        if (grid == null) {
            return STATE;
        }
        if (!in(height, 0, 40)) {
            return OUTSIDE;
        }
        for (int cell : stones(grid)) {
            at(grid, cell).height = height;
            at(grid, cell).seat = 0;
        }
        return stones(grid).size();
    }

    int grit(int v) {
        if (grid == null) {
            return STATE;
        }
        if (!in(v, 0, 9)) {
            return OUTSIDE;
        }
        stones(grid).forEach(cell -> at(grid, cell).joint = v);
        return stones(grid).size();
    }

    private static int sink(Cell[][] g, int cell, int weight) {
        Cell one = at(g, cell);
        int plain = weight / (4 + hold(g, cell) + one.seat);
        int[] byKind = {plain, plain, plain + 1, 2 * (plain + 1), 0};
        return byKind[one.kind];
    }

    private static int strike(Cell[][] g, int cell, int weight) {
        Cell one = at(g, cell);
        int sink = sink(g, cell, weight);
        one.height -= sink;
        if (one.kind != 4) {
            one.seat = one.seat == 99 ? 99 : one.seat + 1;
        }
        if (one.kind == 3 && one.seat == 2) {
            one.kind = 2;
        }
        if (one.kind == 2 && one.seat == 4) {
            one.kind = 0;
        }
        return sink;
    }

    private static int ramRounds(Cell[][] g, int weight, int rounds, int order) {
        int wide = g[0].length;
        List<Comparator<Integer>> orders = List.of(Comparator.naturalOrder(), Comparator.reverseOrder(),
                Comparator.<Integer>comparingInt(cell -> cell % wide).thenComparing(cell -> cell / wide),
                Comparator.<Integer>comparingInt(cell -> cell % 2).thenComparing(cell -> cell));
        List<Integer> turns = new ArrayList<>(stones(g));
        turns.sort(orders.get(order));
        int sunk = 0;
        for (int round = 0; round < rounds; round++) {
            for (int cell : turns) {
                sunk += strike(g, cell, weight);
            }
        }
        return sunk;
    }

    private static long ringing(Cell[][] g, int weight) {
        return stones(g).stream().filter(cell -> sink(g, cell, weight) == 0).count();
    }

    private static int uneven(Cell[][] g) {
        TreeSet<Integer> heights = new TreeSet<>();
        stones(g).forEach(cell -> heights.add(at(g, cell).height));
        return heights.isEmpty() ? 0 : heights.last() - heights.first();
    }

    int blow(int cell, int weight) {
        if (!isStone(cell)) {
            return UNKNOWN;
        }
        return in(weight, 1, 99) ? strike(grid, cell, weight) : OUTSIDE;
    }

    int ram(int weight, int rounds, int order) {
        if (grid == null) {
            return STATE;
        }
        boolean isRight = in(weight, 1, 99) && in(rounds, 1, 40) && in(order, 0, 3);
        return isRight ? ramRounds(grid, weight, rounds, order) : OUTSIDE;
    }

    int rings(int weight) {
        if (grid == null) {
            return STATE;
        }
        return in(weight, 1, 99) ? (int) ringing(grid, weight) : OUTSIDE;
    }

    int proud(int cell, int weight, int rounds, int order) {
        if (!isStone(cell)) {
            return UNKNOWN;
        }
        if (!in(weight, 1, 99) || !in(rounds, 0, 40) || !in(order, 0, 3)) {
            return OUTSIDE;
        }
        Cell[][] g = copy(grid);
        ramRounds(g, weight, rounds, order);
        return at(grid, cell).height - at(g, cell).height;
    }

    int until(int weight, int order) {
        if (grid == null) {
            return STATE;
        }
        if (!in(weight, 1, 99) || !in(order, 0, 3)) {
            return OUTSIDE;
        }
        Cell[][] g = copy(grid);
        int rounds = 0;
        while (rounds <= 99 && ringing(g, weight) < stones(g).size()) {
            ramRounds(g, weight, 1, order);
            rounds++;
        }
        return rounds > 99 ? NONE : rounds;
    }

    int uneven() {
        return grid == null ? STATE : uneven(grid);
    }

    int evenest(int weight, int rounds) {
        if (grid == null) {
            return STATE;
        }
        if (!in(weight, 1, 99) || !in(rounds, 0, 40)) {
            return OUTSIDE;
        }
        TreeMap<Integer, Integer> byUneven = new TreeMap<>();
        for (int order = 3; order >= 0; order--) {
            Cell[][] g = copy(grid);
            ramRounds(g, weight, rounds, order);
            byUneven.put(uneven(g), order);
        }
        return byUneven.firstEntry().getValue();
    }

    // ---- loads, water, years

    private static Map<Integer, Integer> borne(Cell[][] g, int cell, int load) {
        Map<Integer, Integer> all = new TreeMap<>();
        if (!at(g, cell).isStone()) {
            return all;
        }
        all.put(cell, load);
        for (int next : beside(g, cell)) {
            int given = load * at(g, next).grip() / 20;
            all.merge(cell, -given, Integer::sum);
            all.merge(next, given, Integer::sum);
            for (int last : beside(g, next)) {
                int more = last == cell ? 0 : given * at(g, last).grip() / 20;
                all.merge(next, -more, Integer::sum);
                all.merge(last, more, Integer::sum);
            }
        }
        return all;
    }

    int borne(int cell, int load, int by) {
        if (!isCell(cell) || !isCell(by)) {
            return UNKNOWN;
        }
        return in(load, 1, 9999) ? borne(grid, cell, load).getOrDefault(by, 0) : OUTSIDE;
    }

    int bearer(int cell, int load) {
        if (!isCell(cell)) {
            return UNKNOWN;
        }
        if (!in(load, 1, 9999)) {
            return OUTSIDE;
        }
        Map<Integer, Integer> all = borne(grid, cell, load);
        int best = NONE;
        for (int by : all.keySet()) {
            if (at(grid, by).isStone() && (best == NONE || all.get(by) > all.get(best))) {
                best = by;
            }
        }
        return best;
    }

    /** A flood from the cell at each height, until it comes to the rim. */
    private static int waterIn(Cell[][] g, int cell) {
        int own = at(g, cell).height;
        for (int level = own; ; level++) {
            TreeSet<Integer> wet = new TreeSet<>(List.of(cell));
            List<Integer> open = new ArrayList<>(wet);
            while (!open.isEmpty()) {
                int one = open.remove(open.size() - 1);
                List<Integer> nexts = beside(g, one);
                if (nexts.size() < 4) {
                    return level - own;
                }
                for (int next : nexts) {
                    if (at(g, next).height <= level && wet.add(next)) {
                        open.add(next);
                    }
                }
            }
        }
    }

    int water(int cell) {
        return isCell(cell) ? waterIn(grid, cell) : UNKNOWN;
    }

    int seed(int v) {
        if (v < 0) {
            return OUTSIDE;
        }
        long was = seed;
        seed = v;
        return (int) was;
    }

    /** Years on the street and the seed of this model; the caller puts them back where it only asks. */
    private int pass(int years, int frost) {
        int lost = 0;
        for (int year = 0; year < years; year++) {
            lost += passOne(frost);
        }
        return lost;
    }

    private int passOne(int frost) {
        Cell[][] before = copy(grid);
        Map<Integer, Integer> wear = new TreeMap<>();
        int wide = grid[0].length;
        for (int[] cart : carts) {
            for (int column = 0; cart[0] < grid.length && column < wide; column++) {
                borne(before, cart[0] * wide + column, cart[1])
                        .forEach((by, load) -> wear.merge(by, load, Integer::sum));
            }
        }
        int lost = 0;
        for (int cell : stones(before)) {
            Cell one = at(grid, cell);
            boolean isWorn = wear.getOrDefault(cell, 0) > 20 * one.size + 10 * hold(before, cell);
            if (isWorn && one.kind <= 1) {
                one.kind = 2;
                one.seat = 0;
            } else if (isWorn && one.kind <= 3) {
                one.kind = NONE;
                one.size = 0;
                one.height -= 5;
                one.seat = 0;
                one.joint = 0;
                lost++;
            }
        }
        freeze(frost);
        for (int cell : stones(grid)) {
            if (beside(grid, cell).stream().anyMatch(next -> !at(grid, next).isStone())) {
                at(grid, cell).joint = Math.max(0, at(grid, cell).joint - 1);
            }
        }
        return lost;
    }

    private void freeze(int frost) {
        List<Integer> wet = new ArrayList<>();
        for (int cell = 0; cell < cells(); cell++) {
            if (waterIn(grid, cell) > 0) {
                wet.add(cell);
            }
        }
        for (int cell : wet) {
            Cell one = at(grid, cell);
            one.joint = Math.max(0, one.joint - 1);
            if (one.kind == 0 || one.kind == 1) {
                seed = BigInteger.valueOf(1103515245).multiply(BigInteger.valueOf(seed)).add(BigInteger.valueOf(12345))
                        .mod(BigInteger.ONE.shiftLeft(31)).longValueExact();
                if (seed / 65536 % 10 < frost) {
                    one.kind = 3;
                    one.height += 2;
                    one.seat = 0;
                }
            }
        }
    }

    private int wouldPass(int years, int frost) {
        Cell[][] keptGrid = copy(grid);
        long keptSeed = seed;
        int lost = pass(years, frost);
        grid = keptGrid;
        seed = keptSeed;
        return lost;
    }

    int years(int years, int frost) {
        if (grid == null || carts.isEmpty()) {
            return STATE;
        }
        return in(years, 1, 20) && in(frost, 0, 10) ? pass(years, frost) : OUTSIDE;
    }

    int would(int years, int frost) {
        if (grid == null || carts.isEmpty()) {
            return STATE;
        }
        return in(years, 1, 20) && in(frost, 0, 10) ? wouldPass(years, frost) : OUTSIDE;
    }

    private static boolean canBeMended(Cell one) {
        return one.kind == NONE || one.kind == 2 || one.kind == 3;
    }

    private static void mend(Cell one, int size) {
        one.size = one.isStone() ? one.size : size;
        one.kind = one.isStone() ? 0 : 1;
        one.height = 0;
        one.seat = 0;
    }

    int mend(int cell, int size) {
        if (!isCell(cell)) {
            return UNKNOWN;
        }
        if (!in(size, 1, 9)) {
            return OUTSIDE;
        }
        if (!canBeMended(at(grid, cell))) {
            return STATE;
        }
        mend(at(grid, cell), size);
        return at(grid, cell).kind;
    }

    int first(int k, int years, int frost, int what) {
        if (grid == null || carts.isEmpty()) {
            return STATE;
        }
        if (!in(k, 1, 4) || !in(years, 1, 20) || !in(frost, 0, 10) || !in(what, 0, 1)) {
            return OUTSIDE;
        }
        List<Integer> broken = new ArrayList<>();
        for (int cell = 0; cell < cells(); cell++) {
            if (canBeMended(at(grid, cell))) {
                broken.add(cell);
            }
        }
        if (broken.size() < k || firsts == 20) {
            return STATE;
        }
        firsts++;
        List<int[]> found = new ArrayList<>();
        for (int bits = 255; bits >= 0; bits--) {
            if (Integer.bitCount(bits) == k && bits < 1 << broken.size()) {
                found.add(new int[] {bits, lostWith(broken, bits, years, frost)});
            }
        }
        found.sort(Comparator.<int[]>comparingInt(set -> set[1]).thenComparingInt(set -> set[0]));
        return found.get(0)[what];
    }

    private int lostWith(List<Integer> broken, int bits, int years, int frost) {
        Cell[][] keptGrid = copy(grid);
        for (int i = 0; i < Math.min(8, broken.size()); i++) {
            if ((bits & 1 << i) != 0) {
                mend(at(grid, broken.get(i)), 5);
            }
        }
        int lost = wouldPass(years, frost);
        grid = keptGrid;
        return lost;
    }

    // ---- trenches, heaps, gaps, speeds

    int trench(int depth, int beats, int years) {
        if (!in(depth, 1, 99) || !in(beats, 0, 9) || !in(years, 0, 99)) {
            return OUTSIDE;
        }
        int whole = 10 * depth / (2 + beats);
        int left = whole;
        for (int year = 0; year < years; year++) {
            left -= left / 4 + (left % 4 == 0 ? 0 : 1);
        }
        return whole - left;
    }

    int heap(int size) {
        if (!in(size, 1, 9)) {
            return OUTSIDE;
        }
        if (heap.size() == 10) {
            return FULL;
        }
        heap.add(size);
        return heap.size();
    }

    int fits(int hole, int what) {
        if (!in(hole, 0, 90) || !in(what, 0, 1)) {
            return OUTSIDE;
        }
        List<int[]> sets = new ArrayList<>();
        for (int bits = 0; bits < 1 << heap.size(); bits++) {
            int wide = 0;
            for (int i = 0; i < heap.size(); i++) {
                wide += (bits & 1 << i) != 0 ? heap.get(i) : 0;
            }
            if (wide <= hole) {
                sets.add(new int[] {bits, wide});
            }
        }
        sets.sort(Comparator.<int[]>comparingInt(set -> -set[1]).thenComparingInt(set -> Integer.bitCount(set[0]))
                .thenComparingInt(set -> set[0]));
        return sets.get(0)[what];
    }

    int gaps(int n, int size, int swell) {
        if (!in(n, 1, 99) || !in(size, 1, 99) || !in(swell, 0, 200)) {
            return OUTSIDE;
        }
        int gap = 0;
        while (1000L * gap * (n + 1) < (long) n * size * swell) {
            gap++;
        }
        return gap;
    }

    /** What it shakes by and how many steps there are. */
    private int[] shaken(int row, int speed) {
        int sum = 0;
        int steps = 0;
        for (int column = speed; column < grid[row].length; column += speed) {
            sum += Math.abs(grid[row][column].height - grid[row][column - speed].height);
            steps++;
        }
        return new int[] {sum, steps};
    }

    int shake(int row, int speed, int part) {
        if (grid == null || !in(row, 0, grid.length - 1)) {
            return UNKNOWN;
        }
        if (!in(speed, 1, 5) || !in(part, 0, 1)) {
            return OUTSIDE;
        }
        int[] shaken = shaken(row, speed);
        if (shaken[1] == 0) {
            return part == 0 ? 0 : 1;
        }
        return shaken[part] / BigInteger.valueOf(shaken[0]).gcd(BigInteger.valueOf(shaken[1])).intValueExact();
    }

    int worst(int row) {
        if (grid == null || !in(row, 0, grid.length - 1)) {
            return UNKNOWN;
        }
        int best = NONE;
        int most = -1;
        for (int speed = 1; speed <= 5; speed++) {
            int[] shaken = shaken(row, speed);
            // 60 is a multiple of every number of steps.
            if (shaken[1] > 0 && 60 / shaken[1] * shaken[0] > most) {
                most = 60 / shaken[1] * shaken[0];
                best = speed;
            }
        }
        return best;
    }

    // ---- what is told of all

    int image() {
        if (grid == null) {
            return STATE;
        }
        imageGrid = copy(grid);
        imageSeed = seed;
        return stones(grid).size();
    }

    int restore() {
        if (imageGrid == null) {
            return STATE;
        }
        grid = copy(imageGrid);
        seed = imageSeed;
        return stones(grid).size();
    }

    int count(int what) {
        int[] counts = {cells(), stones(grid).size(), carts.size(), heap.size(), page.length(), (int) seed, streets,
            firsts};
        return in(what, 0, 7) ? counts[what] : OUTSIDE;
    }

    long digest() {
        List<Integer> told = new ArrayList<>();
        for (int cell = 0; cell < cells(); cell++) {
            for (int what = 0; what < 6; what++) {
                told.add(cell(cell, what));
            }
            told.add(water(cell));
        }
        for (int[] cart : carts) {
            told.add(cart[0]);
            told.add(cart[1]);
        }
        told.addAll(heap);
        if (grid != null) {
            told.add(uneven());
            if (!carts.isEmpty()) {
                told.add(would(3, 4));
            }
        }
        page.chars().forEach(told::add);
        for (int what = 0; what < 8; what++) {
            told.add(count(what));
        }
        long h = 509;
        for (int number : told) {
            h = 31 * h + number;
        }
        return h;
    }
}
