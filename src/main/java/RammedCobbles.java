/**
 * A street of cobbles: read from a text, rammed, worn by carts, lifted by frost and mended.
 *
 * What each call answers and refuses stands in the document's promises 1 to 36. All rows are
 * made with the object and used again, so that no call makes anything.
 */
public final class RammedCobbles {
    public static final int NONE = -1, UNKNOWN = -101, OUTSIDE = -102, STATE = -103, FULL = -104;

    // A HEIGHT may well be -101 or -102, so cell() refuses by numbers of its own.
    private static final int CELL_UNKNOWN = -1001, CELL_OUTSIDE = -1002;

    private static final int SAND = NONE, STONE = 0, ODD = 1, LOOSE = 2, TILTED = 3, KERB = 4;

    private static final int MOST_ROWS = 5, MOST_WIDE = 6, MOST_CELLS = MOST_ROWS * MOST_WIDE;
    private static final int MOST_LETTERS = 64, MOST_CARTS = 6, MOST_HEAP = 10;
    private static final int SIDES = 4, ORDERS = 4, COUNTS = 8, TELLS = 6;
    private static final int MOST_WEIGHT = 99, MOST_ROUNDS = 40, MOST_UNTIL = 99, MOST_SEAT = 99;
    private static final int MOST_YEARS = 20, MOST_FROST = 10, MOST_SPEED = 5, MOST_SIZE = 9;
    private static final int MOST_MENDABLE = 8, MOST_FIRSTS = 20, FIRST_SIZE = 5;
    private static final int HIGHEST = 2147483647, LOWEST = -2147483648;

    private final Page page = new Page();
    private final StreetText streetText = new StreetText();
    private final CartText cartText = new CartText();
    private final CartText kept = new CartText();
    private final Plan plan = new Plan();
    private final Street now = new Street(plan);
    private final Street trial = new Street(plan);
    private final Street held = new Street(plan);
    private final Ramming ramming = new Ramming(plan);
    private final Loads loads = new Loads(plan);
    private final Water pools = new Water(plan);
    private final Years ages = new Years(plan, loads, pools);
    private final Heap pile = new Heap();
    private final int[] mendable = new int[MOST_MENDABLE];
    private int streetsRead = 0;
    private int imageOf = NONE;
    private int firstsDone = 0;

    public RammedCobbles() {
    }

    // ---- texts

    public int letters(long w) {
        int many = lettersIn(w);
        if (many < 0) {
            return OUTSIDE;
        }
        if (page.length + many > MOST_LETTERS) {
            return FULL;
        }
        for (int i = 0; i < many; i++) {
            page.append(byteOf(w, i));
        }
        return page.length;
    }

    public int blank() {
        int had = page.length;
        page.length = 0;
        return had;
    }

    public int fault(int sort) {
        if (sort == 0) {
            return streetText.faultIn(page);
        }
        if (sort == 1) {
            return cartText.faultIn(page);
        }
        return OUTSIDE;
    }

    public int street() {
        if (!streetText.reads(page)) {
            return STATE;
        }
        plan.draw(streetText.rows + 1, streetText.wide);
        now.pave(streetText);
        streetsRead++;
        page.length = 0;
        return plan.cells;
    }

    public int carts() {
        if (!cartText.reads(page)) {
            return STATE;
        }
        kept.copyFrom(cartText);
        page.length = 0;
        return kept.many;
    }

    public int cart(int cart, int what) {
        if (cart < 0 || cart >= kept.many) {
            return UNKNOWN;
        }
        if (what == 0) {
            return kept.rows[cart];
        }
        if (what == 1) {
            return kept.loads[cart];
        }
        return OUTSIDE;
    }

    public int cell(int cell, int what) {
        if (!isCell(cell)) {
            return CELL_UNKNOWN;
        }
        return now.tell(cell, what);
    }

    public int as(int cell, int kind) {
        if (!isCell(cell)) {
            return UNKNOWN;
        }
        if (kind < STONE || kind > KERB) {
            return OUTSIDE;
        }
        return now.isOf(cell, kind) ? cell : NONE;
    }

    // ---- ramming

    public int set(int height) {
        if (!hasStreet()) {
            return STATE;
        }
        if (height < 0 || height > 40) {
            return OUTSIDE;
        }
        now.level(height);
        return now.stones();
    }

    public int grit(int v) {
        if (!hasStreet()) {
            return STATE;
        }
        if (v < 0 || v > 9) {
            return OUTSIDE;
        }
        now.fillJoints(v);
        return now.stones();
    }

    public int blow(int cell, int weight) {
        if (!isStone(cell)) {
            return UNKNOWN;
        }
        if (!isWeight(weight)) {
            return OUTSIDE;
        }
        return now.strike(cell, weight);
    }

    public int ram(int weight, int rounds, int order) {
        if (!hasStreet()) {
            return STATE;
        }
        if (!isWeight(weight) || rounds < 1 || rounds > MOST_ROUNDS || !isOrder(order)) {
            return OUTSIDE;
        }
        return ramming.go(now, weight, rounds, order);
    }

    public int rings(int weight) {
        if (!hasStreet()) {
            return STATE;
        }
        if (!isWeight(weight)) {
            return OUTSIDE;
        }
        return now.ringing(weight);
    }

    public int proud(int cell, int weight, int rounds, int order) {
        if (!isStone(cell)) {
            return UNKNOWN;
        }
        if (!isWeight(weight) || rounds < 0 || rounds > MOST_ROUNDS || !isOrder(order)) {
            return OUTSIDE;
        }
        trial.copyFrom(now);
        ramming.go(trial, weight, rounds, order);
        return now.heights[cell] - trial.heights[cell];
    }

    public int until(int weight, int order) {
        if (!hasStreet()) {
            return STATE;
        }
        if (!isWeight(weight) || !isOrder(order)) {
            return OUTSIDE;
        }
        trial.copyFrom(now);
        return ramming.roundsTillAllRing(trial, weight, order);
    }

    public int uneven() {
        return hasStreet() ? now.spread() : STATE;
    }

    public int evenest(int weight, int rounds) {
        if (!hasStreet()) {
            return STATE;
        }
        if (!isWeight(weight) || rounds < 0 || rounds > MOST_ROUNDS) {
            return OUTSIDE;
        }
        int best = 0;
        int least = HIGHEST;
        for (int order = 0; order < ORDERS; order++) {
            trial.copyFrom(now);
            ramming.go(trial, weight, rounds, order);
            int spread = trial.spread();
            if (spread < least) {
                least = spread;
                best = order;
            }
        }
        return best;
    }

    // ---- loads, water, years

    public int borne(int cell, int load, int by) {
        if (!isCell(cell) || !isCell(by)) {
            return UNKNOWN;
        }
        if (!isLoad(load)) {
            return OUTSIDE;
        }
        loads.begin(now);
        loads.lay(cell, load);
        return loads.borne[by];
    }

    public int bearer(int cell, int load) {
        if (!isCell(cell)) {
            return UNKNOWN;
        }
        if (!isLoad(load)) {
            return OUTSIDE;
        }
        loads.begin(now);
        loads.lay(cell, load);
        return loads.greatest();
    }

    public int water(int cell) {
        if (!isCell(cell)) {
            return UNKNOWN;
        }
        pools.fill(now);
        return pools.depth(now, cell);
    }

    public int seed(int v) {
        if (v < 0) {
            return OUTSIDE;
        }
        int was = now.seed;
        now.seed = v;
        return was;
    }

    public int years(int years, int frost) {
        if (!hasTraffic()) {
            return STATE;
        }
        if (!areYears(years, frost)) {
            return OUTSIDE;
        }
        return ages.pass(now, kept, years, frost);
    }

    public int would(int years, int frost) {
        if (!hasTraffic()) {
            return STATE;
        }
        if (!areYears(years, frost)) {
            return OUTSIDE;
        }
        trial.copyFrom(now);
        return ages.pass(trial, kept, years, frost);
    }

    public int mend(int cell, int size) {
        if (!isCell(cell)) {
            return UNKNOWN;
        }
        if (!isSize(size)) {
            return OUTSIDE;
        }
        if (!now.canBeMended(cell)) {
            return STATE;
        }
        now.repair(cell, size);
        return now.kinds[cell];
    }

    public int first(int k, int years, int frost, int what) {
        if (!hasTraffic()) {
            return STATE;
        }
        if (k < 1 || k > 4 || !areYears(years, frost) || what < 0 || what > 1) {
            return OUTSIDE;
        }
        int many = findMendable();
        if (many < k || firstsDone >= MOST_FIRSTS) {
            return STATE;
        }
        firstsDone++;
        int best = 0;
        int least = HIGHEST;
        int sets = 1 << many;
        // When nothing is lost by a set, none behind it can be better.
        for (int bits = 1; bits < sets && least > 0; bits++) {
            if (Integer.bitCount(bits) == k) {
                int lost = lostWith(bits, many, years, frost);
                if (lost < least) {
                    least = lost;
                    best = bits;
                }
            }
        }
        return what == 0 ? best : least;
    }

    // ---- trenches, heaps, gaps, speeds

    public int trench(int depth, int beats, int years) {
        if (depth < 1 || depth > 99 || beats < 0 || beats > 9 || years < 0 || years > 99) {
            return OUTSIDE;
        }
        int whole = quotient(10 * depth, 2 + beats);
        int dipped = 0;
        for (int year = 0; year < years; year++) {
            dipped += (whole - dipped + 3) / 4;
        }
        return dipped;
    }

    public int heap(int size) {
        if (!isSize(size)) {
            return OUTSIDE;
        }
        if (pile.many >= MOST_HEAP) {
            return FULL;
        }
        pile.put(size);
        return pile.many;
    }

    public int fits(int hole, int what) {
        if (hole < 0 || hole > 90 || what < 0 || what > 1) {
            return OUTSIDE;
        }
        pile.choose(hole);
        return what == 0 ? pile.bestBits : pile.bestWidth;
    }

    public int gaps(int n, int size, int swell) {
        if (n < 1 || n > 99 || size < 1 || size > 99 || swell < 0 || swell > 200) {
            return OUTSIDE;
        }
        int together = (n * size * swell + 999) / 1000;
        return quotient(together + n, n + 1);
    }

    public int shake(int row, int speed, int part) {
        if (!isRow(row)) {
            return UNKNOWN;
        }
        if (speed < 1 || speed > MOST_SPEED || part < 0 || part > 1) {
            return OUTSIDE;
        }
        int above = now.jolts(row, speed);
        int below = plan.steps(speed);
        if (above == 0 || below == 0) {
            return part;
        }
        return quotient(part == 0 ? above : below, commonDivisor(above, below));
    }

    public int worst(int row) {
        if (!isRow(row)) {
            return UNKNOWN;
        }
        int best = 1;
        for (int speed = 2; speed <= MOST_SPEED; speed++) {
            long here = (long) now.jolts(row, speed) * plan.steps(best);
            long there = (long) now.jolts(row, best) * plan.steps(speed);
            if (plan.steps(speed) > 0 && here > there) {
                best = speed;
            }
        }
        return best;
    }

    // ---- what is told of all

    public int image() {
        if (!hasStreet()) {
            return STATE;
        }
        held.copyFrom(now);
        imageOf = streetsRead;
        return held.stones();
    }

    public int restore() {
        if (imageOf == NONE || imageOf != streetsRead) {
            return STATE;
        }
        now.copyFrom(held);
        return now.stones();
    }

    public int count(int what) {
        switch (what) {
            case 0:
                return plan.cells;
            case 1:
                return now.stones();
            case 2:
                return kept.many;
            case 3:
                return pile.many;
            case 4:
                return page.length;
            case 5:
                return now.seed;
            case 6:
                return streetsRead;
            case 7:
                return firstsDone;
            default:
                return OUTSIDE;
        }
    }

    public long digest() {
        long h = digestOfCells(509L);
        for (int i = 0; i < kept.many; i++) {
            h = 31L * (31L * h + kept.rows[i]) + kept.loads[i];
        }
        for (int i = 0; i < pile.many; i++) {
            h = 31L * h + pile.sizes[i];
        }
        if (hasStreet()) {
            h = 31L * h + now.spread();
        }
        if (hasTraffic()) {
            h = 31L * h + would(3, 4);
        }
        for (int i = 0; i < page.length; i++) {
            h = 31L * h + page.codes[i];
        }
        for (int what = 0; what < COUNTS; what++) {
            h = 31L * h + count(what);
        }
        return h;
    }

    // ---- what the calls share

    private long digestOfCells(long start) {
        long h = start;
        pools.fill(now);
        for (int cell = 0; cell < plan.cells; cell++) {
            for (int what = 0; what < TELLS; what++) {
                h = 31L * h + now.tell(cell, what);
            }
            h = 31L * h + pools.depth(now, cell);
        }
        return h;
    }

    /** The first CELLS that can be MENDED come into the row mendable: how many. */
    private int findMendable() {
        int many = 0;
        for (int cell = 0; cell < plan.cells && many < MOST_MENDABLE; cell++) {
            if (now.canBeMended(cell)) {
                mendable[many] = cell;
                many++;
            }
        }
        return many;
    }

    private int lostWith(int bits, int many, int years, int frost) {
        trial.copyFrom(now);
        for (int i = 0; i < many; i++) {
            if ((bits >> i & 1) == 1) {
                trial.repair(mendable[i], FIRST_SIZE);
            }
        }
        return ages.pass(trial, kept, years, frost);
    }

    private boolean hasStreet() {
        return plan.cells > 0;
    }

    private boolean hasTraffic() {
        return hasStreet() && kept.many > 0;
    }

    private boolean isCell(int cell) {
        return cell >= 0 && cell < plan.cells;
    }

    private boolean isStone(int cell) {
        return isCell(cell) && now.kinds[cell] != SAND;
    }

    private boolean isRow(int row) {
        return row >= 0 && row < plan.rows;
    }

    private static boolean isWeight(int weight) {
        return weight >= 1 && weight <= MOST_WEIGHT;
    }

    private static boolean isOrder(int order) {
        return order >= 0 && order < ORDERS;
    }

    private static boolean isLoad(int load) {
        return load >= 1 && load <= 9999;
    }

    private static boolean isSize(int size) {
        return size >= 1 && size <= MOST_SIZE;
    }

    private static boolean areYears(int years, int frost) {
        return years >= 1 && years <= MOST_YEARS && frost >= 0 && frost <= MOST_FROST;
    }

    private static int byteOf(long w, int place) {
        return (int) (w >>> 8 * place) & 255;
    }

    /** How many letters w tells; NONE: it tells none rightly. */
    private static int lettersIn(long w) {
        int many = 0;
        for (int i = 0; i < 8; i++) {
            int code = byteOf(w, i);
            if (code > 126 || code != 0 && many < i) {
                return NONE;
            }
            if (code != 0) {
                many++;
            }
        }
        return many;
    }

    /** Rounded down, for numbers of 0 and above; a divisor below 1 never comes and gives 0. */
    private static int quotient(int above, int below) {
        return below < 1 ? 0 : above / below;
    }

    /** Of two numbers above 0. */
    private static int commonDivisor(int one, int other) {
        int a = one;
        int b = other;
        for (int i = 0; i < 64 && b != 0; i++) {
            int rest = a % b;
            a = b;
            b = rest;
        }
        return a;
    }

    /** THE PAGE. */
    private static final class Page {
        final int[] codes = new int[MOST_LETTERS];
        int length = 0;

        void append(int code) {
            if (length >= 0 && length < codes.length) {
                codes[length] = code;
                length++;
            }
        }
    }

    /** Reads a text letter by letter and refuses the first that cannot stand where it does. */
    private abstract static class Reader {
        abstract void begin();

        abstract boolean takes(int letter);

        abstract boolean isWhole();

        int faultIn(Page page) {
            begin();
            for (int i = 0; i < page.length; i++) {
                if (!takes(page.codes[i])) {
                    return i;
                }
            }
            return page.length;
        }

        boolean reads(Page page) {
            return faultIn(page) == page.length && isWhole();
        }
    }

    private static final class StreetText extends Reader {
        final int[] kinds = new int[MOST_CELLS];
        final int[] sizes = new int[MOST_CELLS];
        /** ROWS that a "/" has ended; the last ROW has none behind it. */
        int rows = 0;
        int wide = 0;
        private int inRow = 0;
        private int cells = 0;
        private boolean sizeIsDue = false;

        void begin() {
            rows = 0;
            wide = 0;
            inRow = 0;
            cells = 0;
            sizeIsDue = false;
        }

        boolean takes(int letter) {
            if (sizeIsDue) {
                return takesSize(letter);
            }
            return letter == '/' ? takesRowEnd() : takesCell(letter);
        }

        boolean isWhole() {
            return !sizeIsDue && rows > 0 && inRow == wide;
        }

        private boolean takesSize(int letter) {
            if (letter < '1' || letter > '9' || cells < 1 || cells > MOST_CELLS) {
                return false;
            }
            sizes[cells - 1] = letter - '0';
            sizeIsDue = false;
            return true;
        }

        private boolean takesRowEnd() {
            if (rows == 0) {
                wide = inRow;
            }
            if (inRow < 2 || inRow != wide || rows + 1 >= MOST_ROWS) {
                return false;
            }
            rows++;
            inRow = 0;
            return true;
        }

        private boolean takesCell(int letter) {
            int kind = kindOf(letter);
            int room = rows == 0 ? MOST_WIDE : wide;
            if (inRow >= room || cells >= MOST_CELLS || kind == SAND && letter != '.') {
                return false;
            }
            kinds[cells] = kind;
            sizes[cells] = 0;
            sizeIsDue = kind != SAND;
            cells++;
            inRow++;
            return true;
        }

        private static int kindOf(int letter) {
            switch (letter) {
                case 's':
                    return STONE;
                case 'o':
                    return ODD;
                case 'l':
                    return LOOSE;
                case 't':
                    return TILTED;
                case 'k':
                    return KERB;
                default:
                    return SAND;
            }
        }
    }

    /** Reads CARTS, and keeps them. */
    private static final class CartText extends Reader {
        private static final int ROW_DUE = 0, X_DUE = 1, LOAD_DUE = 2, DIGIT_OR_END = 3, END_DUE = 4;

        final int[] rows = new int[MOST_CARTS];
        final int[] loads = new int[MOST_CARTS];
        int many = 0;
        private int due = ROW_DUE;

        void copyFrom(CartText other) {
            for (int i = 0; i < MOST_CARTS; i++) {
                rows[i] = other.rows[i];
                loads[i] = other.loads[i];
            }
            many = other.many;
        }

        void begin() {
            many = 0;
            due = ROW_DUE;
        }

        boolean takes(int letter) {
            boolean isDigit = letter >= '0' && letter <= '9';
            switch (due) {
                case ROW_DUE:
                    return isDigit && takesRow(letter - '0');
                case X_DUE:
                    due = LOAD_DUE;
                    return letter == 'x';
                case LOAD_DUE:
                    return isDigit && letter != '0' && takesDigit(letter - '0', DIGIT_OR_END);
                case DIGIT_OR_END:
                    return isDigit ? takesDigit(letter - '0', END_DUE) : takesEnd(letter);
                default:
                    return takesEnd(letter);
            }
        }

        boolean isWhole() {
            return due == DIGIT_OR_END || due == END_DUE;
        }

        private boolean takesRow(int row) {
            if (many >= MOST_CARTS) {
                return false;
            }
            rows[many] = row;
            loads[many] = 0;
            many++;
            due = X_DUE;
            return true;
        }

        private boolean takesDigit(int digit, int next) {
            if (many < 1 || many > MOST_CARTS) {
                return false;
            }
            loads[many - 1] = 10 * loads[many - 1] + digit;
            due = next;
            return true;
        }

        private boolean takesEnd(int letter) {
            due = ROW_DUE;
            return letter == ',' && many < MOST_CARTS;
        }
    }

    /** Where the CELLS of THE STREET lie; without one it has none. */
    private static final class Plan {
        private final int[] near = new int[MOST_CELLS * SIDES];
        final boolean[] atRim = new boolean[MOST_CELLS];
        int rows = 0;
        int wide = 0;
        int cells = 0;

        /** Of a street of 2 to MOST_ROWS rows and 2 to MOST_WIDE cells in each. */
        void draw(int newRows, int newWide) {
            rows = newRows;
            wide = newWide;
            cells = newRows * newWide;
            for (int row = 0; row < rows; row++) {
                for (int column = 0; column < wide; column++) {
                    int cell = row * wide + column;
                    near[cell * SIDES] = numberOf(row - 1, column);
                    near[cell * SIDES + 1] = numberOf(row, column + 1);
                    near[cell * SIDES + 2] = numberOf(row + 1, column);
                    near[cell * SIDES + 3] = numberOf(row, column - 1);
                    atRim[cell] = row == 0 || row == rows - 1 || column == 0 || column == wide - 1;
                }
            }
        }

        int numberOf(int row, int column) {
            boolean lies = row >= 0 && row < rows && column >= 0 && column < wide;
            return lies ? row * wide + column : NONE;
        }

        /** NONE: THE STREET ends on that side. */
        int beside(int cell, int side) {
            return near[cell * SIDES + side];
        }

        int steps(int speed) {
            return quotient(wide - 1, speed);
        }
    }

    /** What lies in the CELLS, and THE SEED. */
    private static final class Street {
        private final Plan plan;
        final int[] kinds = new int[MOST_CELLS];
        final int[] sizes = new int[MOST_CELLS];
        final int[] heights = new int[MOST_CELLS];
        final int[] seats = new int[MOST_CELLS];
        final int[] joints = new int[MOST_CELLS];
        int seed = 1;
        /** How often years have changed a KIND here. */
        int changes = 0;

        Street(Plan plan) {
            this.plan = plan;
        }

        void pave(StreetText text) {
            for (int cell = 0; cell < plan.cells; cell++) {
                kinds[cell] = text.kinds[cell];
                sizes[cell] = text.sizes[cell];
                heights[cell] = kinds[cell] == SAND ? -5 : 0;
                seats[cell] = 0;
                joints[cell] = 0;
            }
        }

        void copyFrom(Street other) {
            for (int cell = 0; cell < plan.cells; cell++) {
                kinds[cell] = other.kinds[cell];
                sizes[cell] = other.sizes[cell];
                heights[cell] = other.heights[cell];
                seats[cell] = other.seats[cell];
                joints[cell] = other.joints[cell];
            }
            seed = other.seed;
        }

        int tell(int cell, int what) {
            switch (what) {
                case 0:
                    return kinds[cell];
                case 1:
                    return sizes[cell];
                case 2:
                    return heights[cell];
                case 3:
                    return seats[cell];
                case 4:
                    return joints[cell];
                case 5:
                    return hold(cell);
                default:
                    return CELL_OUTSIDE;
            }
        }

        boolean isOf(int cell, int kind) {
            int own = kinds[cell];
            if (own == SAND) {
                return false;
            }
            return kind == STONE || own == kind || own == TILTED && kind == LOOSE;
        }

        int stones() {
            int many = 0;
            for (int cell = 0; cell < plan.cells; cell++) {
                if (kinds[cell] != SAND) {
                    many++;
                }
            }
            return many;
        }

        int grip(int cell) {
            switch (kinds[cell]) {
                case STONE:
                    return 2;
                case ODD:
                    return 1;
                case KERB:
                    return 3;
                default:
                    return 0;
            }
        }

        int hold(int cell) {
            int hold = joints[cell];
            for (int side = 0; side < SIDES; side++) {
                int next = plan.beside(cell, side);
                if (next != NONE) {
                    hold += grip(next);
                }
            }
            return hold;
        }

        void level(int height) {
            for (int cell = 0; cell < plan.cells; cell++) {
                if (kinds[cell] != SAND) {
                    heights[cell] = height;
                    seats[cell] = 0;
                }
            }
        }

        void fillJoints(int joint) {
            for (int cell = 0; cell < plan.cells; cell++) {
                if (kinds[cell] != SAND) {
                    joints[cell] = joint;
                }
            }
        }

        int sinkBy(int cell, int weight) {
            int kind = kinds[cell];
            if (kind == SAND || kind == KERB) {
                return 0;
            }
            int sink = quotient(weight, 4 + hold(cell) + seats[cell]);
            if (kind == LOOSE) {
                return sink + 1;
            }
            return kind == TILTED ? 2 * (sink + 1) : sink;
        }

        int strike(int cell, int weight) {
            int sink = sinkBy(cell, weight);
            heights[cell] -= sink;
            seatFirmer(cell);
            return sink;
        }

        private void seatFirmer(int cell) {
            int kind = kinds[cell];
            if (kind == SAND || kind == KERB) {
                return;
            }
            seats[cell] = Math.min(MOST_SEAT, seats[cell] + 1);
            if (kind == TILTED && seats[cell] == 2) {
                kinds[cell] = LOOSE;
            } else if (kind == LOOSE && seats[cell] == 4) {
                kinds[cell] = STONE;
            }
        }

        int ringing(int weight) {
            int many = 0;
            for (int cell = 0; cell < plan.cells; cell++) {
                if (kinds[cell] != SAND && sinkBy(cell, weight) == 0) {
                    many++;
                }
            }
            return many;
        }

        /** UNEVEN. */
        int spread() {
            int least = HIGHEST;
            int greatest = LOWEST;
            for (int cell = 0; cell < plan.cells; cell++) {
                if (kinds[cell] != SAND) {
                    least = Math.min(least, heights[cell]);
                    greatest = Math.max(greatest, heights[cell]);
                }
            }
            return least > greatest ? 0 : greatest - least;
        }

        boolean canBeMended(int cell) {
            int kind = kinds[cell];
            return kind == SAND || kind == LOOSE || kind == TILTED;
        }

        /** Of a CELL that can be MENDED; the size is for SAND alone. */
        void repair(int cell, int size) {
            if (kinds[cell] == SAND) {
                kinds[cell] = ODD;
                sizes[cell] = size;
            } else {
                kinds[cell] = STONE;
            }
            heights[cell] = 0;
            seats[cell] = 0;
        }

        /** The stone gets worse by a step: whether it is LOST. */
        boolean worsen(int cell) {
            int kind = kinds[cell];
            if (kind == SAND || kind == KERB) {
                return false;
            }
            changes++;
            seats[cell] = 0;
            if (kind == STONE || kind == ODD) {
                kinds[cell] = LOOSE;
                return false;
            }
            kinds[cell] = SAND;
            sizes[cell] = 0;
            heights[cell] -= 5;
            joints[cell] = 0;
            return true;
        }

        void loseGrit(int cell) {
            joints[cell] = Math.max(0, joints[cell] - 1);
        }

        void freeze(int cell, int frost) {
            boolean mayLift = kinds[cell] == STONE || kinds[cell] == ODD;
            if (mayLift && drawOfTen() < frost) {
                changes++;
                kinds[cell] = TILTED;
                heights[cell] += 2;
                seats[cell] = 0;
            }
        }

        private int drawOfTen() {
            seed = (int) (1103515245L * seed + 12345L & 0x7fffffffL);
            return seed / 65536 % 10;
        }

        boolean isBesideSand(int cell) {
            for (int side = 0; side < SIDES; side++) {
                int next = plan.beside(cell, side);
                if (next != NONE && kinds[next] == SAND) {
                    return true;
                }
            }
            return false;
        }

        /** What the HEIGHTS that a wheel meets differ by, together. */
        int jolts(int row, int speed) {
            int sum = 0;
            int steps = plan.steps(speed);
            for (int step = 0; step < steps; step++) {
                int from = plan.numberOf(row, step * speed);
                int to = plan.numberOf(row, step * speed + speed);
                if (from != NONE && to != NONE) {
                    sum += Math.abs(heights[from] - heights[to]);
                }
            }
            return sum;
        }
    }

    /** ROUNDS of BLOWS, by ORDERS. */
    private static final class Ramming {
        private final Plan plan;
        private final int[] turns = new int[MOST_CELLS];

        Ramming(Plan plan) {
            this.plan = plan;
        }

        int go(Street street, int weight, int rounds, int order) {
            arrange(order);
            int sunk = 0;
            for (int round = 0; round < rounds; round++) {
                sunk += goRound(street, weight);
            }
            return sunk;
        }

        int roundsTillAllRing(Street street, int weight, int order) {
            arrange(order);
            int stones = street.stones();
            for (int rounds = 0; rounds <= MOST_UNTIL; rounds++) {
                if (street.ringing(weight) == stones) {
                    return rounds;
                }
                goRound(street, weight);
            }
            return NONE;
        }

        private int goRound(Street street, int weight) {
            int sunk = 0;
            for (int i = 0; i < plan.cells; i++) {
                sunk += street.strike(turns[i], weight);
            }
            return sunk;
        }

        private void arrange(int order) {
            if (order == 2) {
                arrangeByColumns();
                return;
            }
            int evens = (plan.cells + 1) / 2;
            for (int i = 0; i < plan.cells; i++) {
                if (order == 0) {
                    turns[i] = i;
                } else if (order == 1) {
                    turns[i] = plan.cells - 1 - i;
                } else {
                    turns[i] = i < evens ? 2 * i : 2 * (i - evens) + 1;
                }
            }
        }

        private void arrangeByColumns() {
            int i = 0;
            for (int column = 0; column < plan.wide; column++) {
                for (int row = 0; row < plan.rows; row++) {
                    turns[i] = plan.numberOf(row, column);
                    i++;
                }
            }
        }
    }

    /** How LOADS spread. */
    private static final class Loads {
        private final Plan plan;
        /** NONE: SAND, which neither takes nor gives. */
        private final int[] grips = new int[MOST_CELLS];
        final int[] borne = new int[MOST_CELLS];

        Loads(Plan plan) {
            this.plan = plan;
        }

        /** Nothing is borne yet; all that is laid from now on goes by the KINDS of now. */
        void begin(Street street) {
            for (int cell = 0; cell < plan.cells; cell++) {
                borne[cell] = 0;
                grips[cell] = street.kinds[cell] == SAND ? NONE : street.grip(cell);
            }
        }

        void lay(int cell, int load) {
            if (grips[cell] == NONE) {
                return;
            }
            int left = load;
            for (int side = 0; side < SIDES; side++) {
                int next = plan.beside(cell, side);
                if (next != NONE && grips[next] > 0) {
                    int given = load * grips[next] / 20;
                    left -= given;
                    passOn(next, given, cell);
                }
            }
            borne[cell] += left;
        }

        private void passOn(int cell, int load, int first) {
            int left = load;
            for (int side = 0; side < SIDES; side++) {
                int next = plan.beside(cell, side);
                if (next != NONE && next != first && grips[next] > 0) {
                    int given = load * grips[next] / 20;
                    left -= given;
                    borne[next] += given;
                }
            }
            borne[cell] += left;
        }

        /** The CELL that bears most; NONE: none bears anything. */
        int greatest() {
            int best = NONE;
            int most = 0;
            for (int cell = 0; cell < plan.cells; cell++) {
                if (borne[cell] > most) {
                    most = borne[cell];
                    best = cell;
                }
            }
            return best;
        }
    }

    /** WATER in hollows. */
    private static final class Water {
        private final Plan plan;
        private final int[] levels = new int[MOST_CELLS];

        Water(Plan plan) {
            this.plan = plan;
        }

        void fill(Street street) {
            for (int cell = 0; cell < plan.cells; cell++) {
                levels[cell] = plan.atRim[cell] ? street.heights[cell] : HIGHEST;
            }
            boolean falls = true;
            for (int i = 0; i < MOST_CELLS && falls; i++) {
                falls = false;
                for (int cell = 0; cell < plan.cells; cell++) {
                    falls = !plan.atRim[cell] && fallsIn(street, cell) || falls;
                }
            }
        }

        int depth(Street street, int cell) {
            return levels[cell] - street.heights[cell];
        }

        /** The level falls to the lowest beside it, but not below the CELL itself: whether it does. */
        private boolean fallsIn(Street street, int cell) {
            int lowest = levels[cell];
            for (int side = 0; side < SIDES; side++) {
                int next = plan.beside(cell, side);
                if (next != NONE) {
                    lowest = Math.min(lowest, levels[next]);
                }
            }
            int level = Math.max(street.heights[cell], lowest);
            boolean falls = level < levels[cell];
            levels[cell] = level;
            return falls;
        }
    }

    /** What carts and frost do to a street. */
    private static final class Years {
        private final Plan plan;
        private final Loads wear;
        private final Water pools;
        private final boolean[] worn = new boolean[MOST_CELLS];

        Years(Plan plan, Loads wear, Water pools) {
            this.plan = plan;
            this.wear = wear;
            this.pools = pools;
        }

        int pass(Street street, CartText carts, int years, int frost) {
            int lost = 0;
            boolean isLaid = false;
            for (int year = 0; year < years; year++) {
                // Loads spread by KINDS alone: where none has changed, WEAR is that of the year before.
                if (!isLaid) {
                    layCarts(street, carts);
                }
                int changes = street.changes;
                lost += wearDown(street);
                freeze(street, frost);
                washOut(street);
                isLaid = street.changes == changes;
            }
            return lost;
        }

        private void layCarts(Street street, CartText carts) {
            wear.begin(street);
            for (int i = 0; i < carts.many; i++) {
                for (int column = 0; column < plan.wide; column++) {
                    int cell = plan.numberOf(carts.rows[i], column);
                    if (cell != NONE) {
                        wear.lay(cell, carts.loads[i]);
                    }
                }
            }
        }

        private int wearDown(Street street) {
            // HOLD is that as the year begins: all are looked at before one gets worse.
            for (int cell = 0; cell < plan.cells; cell++) {
                int bears = 20 * street.sizes[cell] + 10 * street.hold(cell);
                worn[cell] = wear.borne[cell] > bears;
            }
            int lost = 0;
            for (int cell = 0; cell < plan.cells; cell++) {
                if (worn[cell] && street.worsen(cell)) {
                    lost++;
                }
            }
            return lost;
        }

        private void freeze(Street street, int frost) {
            // A stone that lifts does not change where water stood for the others.
            pools.fill(street);
            for (int cell = 0; cell < plan.cells; cell++) {
                if (pools.depth(street, cell) > 0) {
                    street.loseGrit(cell);
                    street.freeze(cell, frost);
                }
            }
        }

        private void washOut(Street street) {
            for (int cell = 0; cell < plan.cells; cell++) {
                if (street.isBesideSand(cell)) {
                    street.loseGrit(cell);
                }
            }
        }
    }

    /** THE HEAP, and which of its stones fill a hole best. */
    private static final class Heap {
        final int[] sizes = new int[MOST_HEAP];
        private final int[] widthBelow = new int[MOST_HEAP];
        int many = 0;
        int bestBits = 0;
        int bestWidth = 0;

        void put(int size) {
            if (many >= 0 && many < MOST_HEAP) {
                sizes[many] = size;
                widthBelow[many] = many == 0 ? 0 : widthBelow[many - 1] + sizes[many - 1];
                many++;
            }
        }

        void choose(int hole) {
            bestBits = 0;
            bestWidth = 0;
            int width = 0;
            int sets = 1 << many;
            for (int bits = 1; bits < sets; bits++) {
                // Counting up by 1 puts in one stone and takes out all those below it.
                int in = Integer.numberOfTrailingZeros(bits);
                if (in < many) {
                    width += sizes[in] - widthBelow[in];
                }
                if (width <= hole && isBetter(bits, width)) {
                    bestBits = bits;
                    bestWidth = width;
                }
            }
        }

        private boolean isBetter(int bits, int width) {
            if (width != bestWidth) {
                return width > bestWidth;
            }
            return Integer.bitCount(bits) < Integer.bitCount(bestBits);
        }
    }
}
