import java.util.Arrays;

/**
 * Sums in a mesh of cells with levels: whole numbers laid on it by digits, cells that stick, checks
 * by two sums, levels that fade, and logic done in the cells. DOC.md tells each answer.
 */
public final class MeshSums {
    public static final int NONE = -1, BAD = -2, NO = -3, SPENT = -5;

    private static final int BAD_NUMBER = -2000000000;
    private static final long BAD_PRODUCT = -2000000000000000000L;
    private static final int SEVERAL = 100;

    private static final int MOST_ROWS = 8;
    private static final int MOST_COLUMNS = 24;
    private static final int MOST_LEVEL = 15;
    private static final int MOST_INPUT = 255;
    private static final int INPUT_BITS = 8;
    private static final int MOST_BITS = 16;

    private static final int MOST_NUMBERS = 12;
    private static final int MOST_DIGITS = 6;

    private static final int CHECK_BASE = 97;
    private static final int MOST_TICKS = 100;
    private static final int FADE_AGE = 16;
    private static final int PULSE_STEP = 2;
    private static final int MOST_PULSES = 40;

    private static final int MOST_LOGIC_INPUTS = 3;
    private static final int MOST_LOGIC_CELLS = 5;
    private static final int MOST_STATES = 8000;
    // A state is the tables of the cells that are no inputs; two cells of 8 bits are the longest.
    private static final int SEEN_WORDS = (1 << 16) / 32;
    private static final int FIRST_ROOM_FOR_ACTS = 16;

    private static final int COUNTS = 9;
    private static final long DIGEST_START = 167;

    private final Grid grid;
    private final Sheet sheet;
    private final Checks checks;
    private final Search search;

    public MeshSums() {
        grid = new Grid();
        sheet = new Sheet(grid);
        checks = new Checks(grid);
        search = new Search();
    }

    public int mesh(int r, int c, int t) {
        if (!within(r, 1, MOST_ROWS) || !within(c, 1, MOST_COLUMNS) || !within(t, 1, MOST_LEVEL)) {
            return BAD;
        }
        grid.renew(r, c, t);
        sheet.drop();
        checks.sealed = false;
        return 1;
    }

    public int write(int r, int c, int level) {
        if (!grid.hasCell(r, c) || !within(level, 0, grid.top)) {
            return BAD;
        }
        int at = grid.place(r, c);
        if (grid.sticksAtAnother(at, level)) {
            return NO;
        }
        grid.put(at, level);
        return 1;
    }

    public int stick(int r, int c, int level) {
        if (!grid.hasCell(r, c) || !within(level, NONE, grid.top)) {
            return BAD;
        }
        grid.hold(grid.place(r, c), level);
        return 1;
    }

    public int cell(int r, int c, int what) {
        if (!grid.hasCell(r, c) || !within(what, 0, 2)) {
            return BAD;
        }
        return grid.tellCell(grid.place(r, c), what);
    }

    public int input(int r, int x) {
        if (!within(r, 0, grid.rows - 1) || !within(x, 0, MOST_INPUT)) {
            return BAD;
        }
        int was = grid.inputs[r];
        grid.inputs[r] = x;
        return was;
    }

    public int bits(int b) {
        if (!within(b, 1, MOST_BITS)) {
            return BAD;
        }
        int was = grid.converterBits;
        grid.converterBits = b;
        return was;
    }

    public int sum(int c) {
        if (!within(c, 0, grid.columns - 1)) {
            return BAD;
        }
        return grid.convert(grid.columnSum(c));
    }

    // ---- tables

    public int table(int n, int m, int digits) {
        if (!within(n, 1, grid.rows) || !within(m, 1, MOST_NUMBERS) || !within(digits, 1, MOST_DIGITS)) {
            return BAD;
        }
        if (2 * digits * m > grid.columns) {
            return NO;
        }
        sheet.begin(n, m, digits);
        return 1;
    }

    public int number(int i, int k, int v) {
        if (!within(i, 0, sheet.height - 1) || !within(k, 0, sheet.width - 1)
                || !within(v, -sheet.greatest, sheet.greatest)) {
            return BAD_NUMBER;
        }
        return sheet.exchange(i, k, v);
    }

    public int lay() {
        return sheet.exists() ? sheet.layAll() : NO;
    }

    public long product(int k) {
        if (!sheet.laid || !within(k, 0, sheet.width - 1)) {
            return BAD_PRODUCT;
        }
        return sheet.meshProduct(k);
    }

    public long due(int k) {
        if (!within(k, 0, sheet.width - 1)) {
            return BAD_PRODUCT;
        }
        return sheet.trueProduct(k);
    }

    public int enough() {
        return sheet.exists() ? sheet.bitsEnough() : NO;
    }

    public int map() {
        return sheet.exists() ? sheet.mapAnew() : NO;
    }

    public int mapped(int i) {
        // No table has a row below 0; how many rows there are only a table tells, so NO stands between.
        if (i < 0) {
            return BAD;
        }
        if (!sheet.exists()) {
            return NO;
        }
        return within(i, 0, sheet.height - 1) ? sheet.rowOf[i] : BAD;
    }

    // ---- checks, fading, pulses

    public int seal() {
        checks.takeAnew();
        return 1;
    }

    public int look() {
        return checks.sealed ? checks.wrongColumn() : NO;
    }

    public int fade(int k) {
        if (!within(k, 1, MOST_TICKS)) {
            return BAD;
        }
        int falls = 0;
        for (int tick = 0; tick < k; tick++) {
            falls += grid.ageAll();
        }
        return falls;
    }

    public int pulse(int r, int c, int v) {
        if (!grid.hasCell(r, c) || !within(v, 0, grid.top)) {
            return BAD;
        }
        int at = grid.place(r, c);
        return grid.sticks(at) ? NO : grid.pulseTo(at, v);
    }

    // ---- logic

    public int find(int k, int s, int table) {
        if (!within(k, 1, MOST_LOGIC_INPUTS) || !within(s, k, MOST_LOGIC_CELLS)
                || !within(table, 0, fullTable(k))) {
            return BAD;
        }
        return search.seek(k, s, table);
    }

    public int actAt(int i, int what) {
        if (!within(what, 0, 2)) {
            return BAD;
        }
        return within(i, 0, search.foundActs - 1) ? actPart(search.found[i], what) : NONE;
    }

    public int where() {
        return search.foundCell;
    }

    public int met() {
        return search.metStates;
    }

    public int count(int what) {
        switch (what) {
            case 0: return grid.rows;
            case 1: return grid.columns;
            case 2: return grid.top;
            case 3: return grid.stickingCells();
            case 4: return sheet.height;
            case 5: return sheet.width;
            case 6: return sheet.digits;
            case 7: return sheet.laid ? 1 : 0;
            case 8: return checks.sealed ? 1 : 0;
            default: return BAD;
        }
    }

    public long digest() {
        long h = DIGEST_START;
        for (int what = 0; what < COUNTS; what++) {
            h = 31 * h + count(what);
        }
        h = grid.addTo(h);
        h = sheet.addTo(h);
        return search.addTo(h);
    }

    private static boolean within(int value, int least, int most) {
        return value >= least && value <= most;
    }

    /** The table with a 1 for each setting of the inputs (1 to 3 of them). */
    private static int fullTable(int inputs) {
        return (1 << (1 << inputs)) - 1;
    }

    private static int packAct(int a, int b, int c) {
        return a << 6 | b << 3 | c;
    }

    private static int actPart(int act, int what) {
        return act >> (6 - 3 * what) & 7;
    }

    /** A state met, the turn of the state that it was met from, and the act between them. */
    private static long packVisit(int state, int from, int act) {
        return (long) from << 32 | act << 16 | state;
    }

    private static int stateOf(long visit) {
        return (int) visit & 0xFFFF;
    }

    private static int cameBy(long visit) {
        return (int) visit >> 16;
    }

    private static int cameFrom(long visit) {
        return (int) (visit >> 32);
    }

    /** The cells of the mesh, its inputs and its converters. */
    private static final class Grid {
        private int rows;
        private int columns;
        private int top;
        private int converterBits;
        private final int[] levels = new int[MOST_ROWS * MOST_COLUMNS];
        private final int[] stuckAt = new int[MOST_ROWS * MOST_COLUMNS];
        private final int[] ages = new int[MOST_ROWS * MOST_COLUMNS];
        private final int[] inputs = new int[MOST_ROWS];

        private Grid() {
            renew(1, 1, 1);
        }

        private void renew(int newRows, int newColumns, int newTop) {
            rows = newRows;
            columns = newColumns;
            top = newTop;
            converterBits = MOST_BITS;
            Arrays.fill(levels, 0);
            Arrays.fill(stuckAt, NONE);
            Arrays.fill(ages, 0);
            Arrays.fill(inputs, 0);
        }

        private boolean hasCell(int r, int c) {
            return within(r, 0, rows - 1) && within(c, 0, columns - 1);
        }

        private int place(int r, int c) {
            return r * MOST_COLUMNS + c;
        }

        private boolean sticks(int at) {
            return stuckAt[at] != NONE;
        }

        private boolean sticksAtAnother(int at, int level) {
            return sticks(at) && stuckAt[at] != level;
        }

        /** A cell that sticks keeps its level, but it was written all the same: its age begins anew. */
        private void put(int at, int level) {
            ages[at] = 0;
            if (!sticks(at)) {
                levels[at] = level;
            }
        }

        private void hold(int at, int level) {
            stuckAt[at] = level;
            if (level != NONE) {
                levels[at] = level;
            }
        }

        private int tellCell(int at, int what) {
            if (what == 0) {
                return levels[at];
            }
            return what == 1 ? stuckAt[at] : ages[at];
        }

        private int columnSum(int c) {
            int total = 0;
            for (int r = 0; r < rows; r++) {
                total += inputs[r] * levels[place(r, c)];
            }
            return total;
        }

        private int convert(int total) {
            return Math.min(total, (1 << converterBits) - 1);
        }

        private int stickingCells() {
            int cells = 0;
            for (int r = 0; r < rows; r++) {
                for (int c = 0; c < columns; c++) {
                    cells += sticks(place(r, c)) ? 1 : 0;
                }
            }
            return cells;
        }

        /** One tick for all cells; how many levels fell. */
        private int ageAll() {
            int falls = 0;
            for (int r = 0; r < rows; r++) {
                for (int c = 0; c < columns; c++) {
                    falls += ageOne(place(r, c)) ? 1 : 0;
                }
            }
            return falls;
        }

        private boolean ageOne(int at) {
            if (sticks(at)) {
                return false;
            }
            ages[at]++;
            if (levels[at] == 0 || ages[at] < FADE_AGE - levels[at]) {
                return false;
            }
            levels[at]--;
            ages[at] = 0;
            return true;
        }

        private int pulseTo(int at, int wanted) {
            int given = 0;
            while (given < MOST_PULSES && levels[at] != wanted) {
                levels[at] = levels[at] < wanted ? Math.min(levels[at] + PULSE_STEP, top) : levels[at] - 1;
                ages[at] = 0;
                given++;
            }
            return given;
        }

        private long addTo(long start) {
            long h = start;
            for (int r = 0; r < rows; r++) {
                for (int c = 0; c < columns; c++) {
                    for (int what = 0; what <= 2; what++) {
                        h = 31 * h + tellCell(place(r, c), what);
                    }
                }
            }
            for (int r = 0; r < rows; r++) {
                h = 31 * h + inputs[r];
            }
            return h;
        }
    }

    /** The table of whole numbers, and the rows of the mesh that its rows are mapped to. */
    private static final class Sheet {
        private final Grid grid;
        private int height;
        private int width;
        private int digits;
        private int greatest;
        private boolean laid;
        private final int[] numbers = new int[MOST_ROWS * MOST_NUMBERS];
        private final int[] rowOf = new int[MOST_ROWS];
        private final int[] wanted = new int[MOST_COLUMNS];
        private final int[] costs = new int[MOST_ROWS * MOST_ROWS];
        private final int[] leastRest = new int[1 << MOST_ROWS];

        private Sheet(Grid grid) {
            this.grid = grid;
        }

        private boolean exists() {
            return height > 0;
        }

        private void drop() {
            height = 0;
            width = 0;
            digits = 0;
            laid = false;
        }

        private void begin(int n, int m, int newDigits) {
            height = n;
            width = m;
            digits = newDigits;
            greatest = power(base(), newDigits) - 1;
            laid = false;
            Arrays.fill(numbers, 0);
            for (int i = 0; i < MOST_ROWS; i++) {
                rowOf[i] = i;
            }
        }

        private int base() {
            return grid.top + 1;
        }

        private static int power(int factor, int times) {
            int result = 1;
            for (int i = 0; i < times; i++) {
                result *= factor;
            }
            return result;
        }

        private int numberAt(int i, int k) {
            return numbers[i * MOST_NUMBERS + k];
        }

        private int exchange(int i, int k, int v) {
            int was = numberAt(i, k);
            numbers[i * MOST_NUMBERS + k] = v;
            return was;
        }

        private int usedColumns() {
            return 2 * digits * width;
        }

        /** Fills the row of levels that table row i is to have. */
        private void spellRow(int i) {
            int base = base();
            Arrays.fill(wanted, 0);
            for (int k = 0; k < width; k++) {
                int value = numberAt(i, k);
                int first = 2 * digits * k + (value < 0 ? digits : 0);
                int rest = Math.abs(value);
                for (int d = 0; d < digits; d++) {
                    wanted[first + d] = rest % base;
                    rest /= base;
                }
            }
        }

        private int layAll() {
            int wrong = 0;
            for (int i = 0; i < height; i++) {
                spellRow(i);
                for (int c = 0; c < usedColumns(); c++) {
                    int at = grid.place(rowOf[i], c);
                    grid.put(at, wanted[c]);
                    wrong += grid.sticksAtAnother(at, wanted[c]) ? 1 : 0;
                }
            }
            laid = true;
            return wrong;
        }

        private long meshProduct(int k) {
            long total = 0;
            for (int bit = 0; bit < INPUT_BITS; bit++) {
                long weight = 1L << bit;
                for (int d = 0; d < digits; d++) {
                    int column = 2 * digits * k + d;
                    int above = grid.convert(bitSum(column, bit));
                    int below = grid.convert(bitSum(column + digits, bit));
                    total += weight * (above - below);
                    weight *= base();
                }
            }
            return total;
        }

        /** A column's sum with one bit of the inputs alone, each sent to its table row's ROW. */
        private int bitSum(int column, int bit) {
            int total = 0;
            for (int i = 0; i < height; i++) {
                total += (grid.inputs[i] >> bit & 1) * grid.levels[grid.place(rowOf[i], column)];
            }
            return total;
        }

        private long trueProduct(int k) {
            long total = 0;
            for (int i = 0; i < height; i++) {
                total += (long) grid.inputs[i] * numberAt(i, k);
            }
            return total;
        }

        private int bitsEnough() {
            int most = height * grid.top;
            int enoughBits = 1;
            while (enoughBits < MOST_BITS && (1 << enoughBits) - 1 < most) {
                enoughBits++;
            }
            return enoughBits;
        }

        /**
         * Going by sets of rows already given away, not by orders: 256 sets say the same as 40320
         * orders, since what is left costs the same however the set was given away.
         */
        private int mapAnew() {
            fillCosts();
            for (int used = (1 << grid.rows) - 1; used >= 0; used--) {
                int i = Integer.bitCount(used);
                leastRest[used] = i < height ? leastFrom(i, used) : 0;
            }
            chooseFirstLeast();
            return leastRest[0];
        }

        private void fillCosts() {
            for (int i = 0; i < height; i++) {
                spellRow(i);
                for (int r = 0; r < grid.rows; r++) {
                    costs[i * MOST_ROWS + r] = costOn(r);
                }
            }
        }

        /** How far the sticking cells of a row of the mesh are from the levels spelled last. */
        private int costOn(int r) {
            int cost = 0;
            for (int c = 0; c < usedColumns(); c++) {
                int at = grid.place(r, c);
                if (grid.sticks(at)) {
                    cost += Math.abs(grid.stuckAt[at] - wanted[c]);
                }
            }
            return cost;
        }

        private int costWith(int i, int used, int r) {
            return costs[i * MOST_ROWS + r] + leastRest[used | 1 << r];
        }

        private int leastFrom(int i, int used) {
            int least = Integer.MAX_VALUE;
            for (int r = 0; r < grid.rows; r++) {
                if ((used >> r & 1) == 0) {
                    least = Math.min(least, costWith(i, used, r));
                }
            }
            return least;
        }

        private void chooseFirstLeast() {
            int used = 0;
            for (int i = 0; i < height; i++) {
                rowOf[i] = firstLeastRow(i, used);
                used |= 1 << rowOf[i];
            }
        }

        private int firstLeastRow(int i, int used) {
            int r = 0;
            while (r < grid.rows - 1 && ((used >> r & 1) == 1 || costWith(i, used, r) != leastRest[used])) {
                r++;
            }
            return r;
        }

        private long addTo(long start) {
            long h = start;
            for (int i = 0; i < height; i++) {
                h = 31 * h + rowOf[i];
                for (int k = 0; k < width; k++) {
                    h = 31 * h + numberAt(i, k);
                }
            }
            return h;
        }
    }

    /** The two checks of each row, taken when the mesh was sealed. */
    private static final class Checks {
        private final Grid grid;
        private boolean sealed;
        private final int[] plain = new int[MOST_ROWS];
        private final int[] weighted = new int[MOST_ROWS];

        private Checks(Grid grid) {
            this.grid = grid;
        }

        private void takeAnew() {
            for (int r = 0; r < grid.rows; r++) {
                int levels = 0;
                int weightedLevels = 0;
                for (int c = 0; c < grid.columns; c++) {
                    int level = grid.levels[grid.place(r, c)];
                    levels += level;
                    weightedLevels += (c + 1) * level;
                }
                plain[r] = levels % CHECK_BASE;
                weighted[r] = weightedLevels % CHECK_BASE;
            }
            sealed = true;
        }

        private int wrongColumn() {
            int e = 0;
            int f = 0;
            for (int c = 0; c < grid.columns; c++) {
                e += grid.columnSum(c);
                f += (c + 1) * grid.columnSum(c);
            }
            for (int r = 0; r < grid.rows; r++) {
                e -= grid.inputs[r] * plain[r];
                f -= grid.inputs[r] * weighted[r];
            }
            return columnBy(Math.floorMod(e, CHECK_BASE), Math.floorMod(f, CHECK_BASE));
        }

        private int columnBy(int e, int f) {
            if (e == 0) {
                return f == 0 ? NONE : SEVERAL;
            }
            for (int c = 0; c < grid.columns; c++) {
                if (e * (c + 1) % CHECK_BASE == f) {
                    return c;
                }
            }
            return SEVERAL;
        }
    }

    /** The search for the shortest row of acts, state by state, and what it found last. */
    private static final class Search {
        // One row in place of three, so that an object for each call of a run still has room.
        private final long[] visits = new long[MOST_STATES];
        private final int[] seen = new int[SEEN_WORDS];
        private final int[] tables = new int[MOST_LOGIC_CELLS];
        private int inputs;
        private int cells;
        private int tableBits;
        private int fullMask;
        private int metStates;
        private int[] found = new int[FIRST_ROOM_FOR_ACTS];
        private int foundActs;
        private int foundCell = NONE;

        private Search() {
        }

        private int seek(int k, int s, int table) {
            begin(k, s);
            for (int turn = 0; turn < MOST_STATES && turn < metStates; turn++) {
                openState(stateOf(visits[turn]));
                int cell = cellWith(table);
                if (cell != NONE) {
                    keep(turn, cell);
                    return foundActs;
                }
                if (!meetAllFrom(turn)) {
                    return SPENT;
                }
            }
            return NONE;
        }

        private void begin(int k, int s) {
            inputs = k;
            cells = s;
            tableBits = 1 << k;
            fullMask = fullTable(k);
            Arrays.fill(seen, 0);
            metStates = 0;
            for (int i = 0; i < k; i++) {
                tables[i] = inputTable(i);
            }
            meet(0, 0, 0);
        }

        private int inputTable(int i) {
            int table = 0;
            for (int v = 0; v < tableBits; v++) {
                table |= (v >> i & 1) << v;
            }
            return table;
        }

        private int shiftOf(int cell) {
            return (cell - inputs) * tableBits;
        }

        private void openState(int state) {
            for (int cell = inputs; cell < cells; cell++) {
                tables[cell] = state >> shiftOf(cell) & fullMask;
            }
        }

        private int cellWith(int table) {
            for (int cell = 0; cell < cells; cell++) {
                if (tables[cell] == table) {
                    return cell;
                }
            }
            return NONE;
        }

        private boolean meetAllFrom(int turn) {
            for (int a = 0; a < cells; a++) {
                for (int b = a; b < cells; b++) {
                    if (!meetByActs(turn, a, b)) {
                        return false;
                    }
                }
            }
            return true;
        }

        private boolean meetByActs(int turn, int a, int b) {
            int neither = ~(tables[a] | tables[b]) & fullMask;
            for (int c = inputs; c < cells; c++) {
                if (c != a && c != b) {
                    int others = stateOf(visits[turn]) & ~(fullMask << shiftOf(c));
                    if (!meet(others | neither << shiftOf(c), turn, packAct(a, b, c))) {
                        return false;
                    }
                }
            }
            return true;
        }

        /** False if the state is new and there is no room for one more. */
        private boolean meet(int state, int from, int act) {
            int word = state >> 5;
            int mark = 1 << (state & 31);
            if ((seen[word] & mark) != 0) {
                return true;
            }
            if (metStates >= MOST_STATES) {
                return false;
            }
            seen[word] |= mark;
            visits[metStates] = packVisit(state, from, act);
            metStates++;
            return true;
        }

        private void keep(int turn, int cell) {
            foundCell = cell;
            foundActs = 0;
            for (int at = turn; at > 0 && foundActs < MOST_STATES; at = cameFrom(visits[at])) {
                foundActs++;
            }
            if (foundActs > found.length) {
                found = new int[foundActs];
            }
            int next = foundActs - 1;
            for (int at = turn; at > 0 && next >= 0; at = cameFrom(visits[at])) {
                found[next] = cameBy(visits[at]);
                next--;
            }
        }

        private long addTo(long start) {
            long h = start;
            for (int i = 0; i < foundActs; i++) {
                for (int what = 0; what <= 2; what++) {
                    h = 31 * h + actPart(found[i], what);
                }
            }
            return h;
        }
    }
}
