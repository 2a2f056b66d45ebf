import java.util.ArrayList;
import java.util.Arrays;
import java.util.HashMap;
import java.util.HashSet;
import java.util.List;
import java.util.Map;
import java.util.Random;
import java.util.Set;

/**
 * Long mixed runs, each answer against a second program of the document that goes the longest way:
 * all orders of rows one by one, rows of acts as lists, digits and checks from scratch.
 */
public final class ModelTest {
    private static final int RUNS = 800;
    private static final int CALLS = 512;
    private static final int DIGEST_EACH = 4;
    private static final String[] CALL_NAMES = {
        "mesh", "write", "stick", "cell", "input", "bits", "sum", "table", "number", "lay", "product", "due",
        "enough", "map", "mapped", "seal", "look", "fade", "pulse", "find", "actAt", "where", "met", "count", "digest"};
    /** How often each of them is called, so that runs stay long enough on one mesh to matter. */
    private static final int[] OFTEN = {
        1, 30, 24, 8, 24, 6, 12, 3, 30, 16, 20, 8,
        2, 12, 6, 5, 14, 14, 14, 2, 4, 2, 2, 4, 12};

    private static final Map<String, Model.Answer> LOOKED_FOR = new HashMap<>();

    public static void main(String[] args) {
        int wrong = 0;
        int[] ordinary = new int[CALL_NAMES.length];
        for (int run = 0; run < RUNS && wrong < 5; run++) {
            wrong += differs(run, ordinary) ? 1 : 0;
        }
        for (int i = 0; i < ordinary.length && wrong == 0; i++) {
            if (ordinary[i] < 20) {
                System.out.println(CALL_NAMES[i] + " was hardly ever taken: " + ordinary[i]);
                wrong++;
            }
        }
        wrong += allSearches();
        System.out.println(wrong == 0 ? "all runs are as the model has them" : wrong + " are not");
        if (wrong != 0) {
            System.exit(1);
        }
    }

    private static boolean differs(int run, int[] ordinary) {
        Random random = new Random(run);
        MeshSums x = new MeshSums();
        Model model = new Model();
        boolean wild = run % 8 == 7;
        // What an object answers behind its 512th call is free, so calls of digest() count, too.
        for (int call = 0; call < CALLS; call++) {
            boolean digests = call % DIGEST_EACH == DIGEST_EACH - 1;
            int which = call == 0 ? 0 : digests ? CALL_NAMES.length - 1 : pick(random);
            int[] a = arguments(which, model, random, wild && call > 0);
            long got = ask(x, which, a);
            long want = model.ask(which, a);
            if (got != want) {
                System.out.println("run " + run + ", call " + call + ": " + CALL_NAMES[which] + Arrays.toString(a)
                        + " answered " + got + ", due is " + want);
                return true;
            }
            ordinary[which] += got > Model.NO || got < Model.SPENT && got > Model.BAD_NUMBER ? 1 : 0;
        }
        return false;
    }

    private static int allSearches() {
        int wrong = 0;
        for (int k = 1; k <= 3; k++) {
            for (int s = k; s <= 5; s++) {
                for (int table = 0; table < 1 << (1 << k); table++) {
                    MeshSums x = new MeshSums();
                    Model.Answer want = lookedFor(k, s, table);
                    boolean same = x.find(k, s, table) == want.answer && x.met() == want.met;
                    for (int i = 0; same && want.answer >= 0 && i < want.answer; i++) {
                        int[] act = want.acts.get(i);
                        same = x.actAt(i, 0) == act[0] && x.actAt(i, 1) == act[1] && x.actAt(i, 2) == act[2];
                    }
                    if (!same || want.answer >= 0 && x.where() != want.cell) {
                        System.out.println("find(" + k + ", " + s + ", " + table + ") is not as due");
                        wrong++;
                    }
                }
            }
        }
        return wrong;
    }

    private static Model.Answer lookedFor(int k, int s, int table) {
        return LOOKED_FOR.computeIfAbsent(k + " " + s + " " + table, key -> Model.lookFor(k, s, table));
    }

    private static int pick(Random random) {
        int at = random.nextInt(Arrays.stream(OFTEN).sum());
        int which = 0;
        while (at >= OFTEN[which]) {
            at -= OFTEN[which];
            which++;
        }
        return which;
    }

    private static int upTo(Random random, int least, int most) {
        if (random.nextInt(40) == 0) {
            return random.nextBoolean() ? least - 1 : most + 1;
        }
        return least + random.nextInt(Math.max(1, most - least + 1));
    }

    private static int[] arguments(int which, Model m, Random random, boolean wild) {
        if (wild && random.nextInt(3) == 0) {
            int[] edges = {Integer.MIN_VALUE, Integer.MAX_VALUE, -1, 0, 1, 2, 3, 5, 8, 16, 24, 100, 255, 65536, -2000000000};
            return new int[] {edges[random.nextInt(edges.length)], edges[random.nextInt(edges.length)], edges[random.nextInt(edges.length)]};
        }
        int row = upTo(random, 0, m.r - 1);
        int column = upTo(random, 0, m.c - 1);
        switch (CALL_NAMES[which]) {
            case "mesh":
                return new int[] {upTo(random, 1, 8), upTo(random, 1, 24), upTo(random, 1, 15)};
            case "write": case "pulse":
                return new int[] {row, column, upTo(random, 0, m.t)};
            case "stick":
                return new int[] {row, column, upTo(random, -1, random.nextBoolean() ? m.t : -1)};
            case "cell":
                return new int[] {row, column, upTo(random, 0, 2)};
            case "input":
                return new int[] {row, upTo(random, 0, 255), 0};
            case "bits":
                return new int[] {upTo(random, 1, random.nextBoolean() ? 16 : 7), 0, 0};
            case "sum":
                return new int[] {column, 0, 0};
            case "table":
                return new int[] {upTo(random, 1, m.r), upTo(random, 1, Math.max(1, m.c / 4)), upTo(random, 1, 3)};
            case "number":
                int most = m.greatest();
                return new int[] {upTo(random, 0, m.n - 1), upTo(random, 0, m.m - 1), upTo(random, -most, most)};
            case "product": case "due":
                return new int[] {upTo(random, 0, m.m - 1), 0, 0};
            case "mapped":
                return new int[] {m.n == 0 ? random.nextInt(10) - 2 : upTo(random, 0, m.n - 1), 0, 0};
            case "fade":
                return new int[] {upTo(random, 1, random.nextInt(4) == 0 ? 100 : 5), 0, 0};
            case "find":
                int k = upTo(random, 1, 3);
                return new int[] {k, upTo(random, k, 5), upTo(random, 0, (1 << (1 << Math.min(3, Math.max(0, k)))) - 1)};
            case "actAt":
                return new int[] {upTo(random, 0, 5), upTo(random, 0, 2), 0};
            case "count":
                return new int[] {upTo(random, 0, 8), 0, 0};
            default:
                return new int[] {0, 0, 0};
        }
    }

    private static long ask(MeshSums x, int which, int[] a) {
        switch (CALL_NAMES[which]) {
            case "mesh": return x.mesh(a[0], a[1], a[2]);
            case "write": return x.write(a[0], a[1], a[2]);
            case "stick": return x.stick(a[0], a[1], a[2]);
            case "cell": return x.cell(a[0], a[1], a[2]);
            case "input": return x.input(a[0], a[1]);
            case "bits": return x.bits(a[0]);
            case "sum": return x.sum(a[0]);
            case "table": return x.table(a[0], a[1], a[2]);
            case "number": return x.number(a[0], a[1], a[2]);
            case "lay": return x.lay();
            case "product": return x.product(a[0]);
            case "due": return x.due(a[0]);
            case "enough": return x.enough();
            case "map": return x.map();
            case "mapped": return x.mapped(a[0]);
            case "seal": return x.seal();
            case "look": return x.look();
            case "fade": return x.fade(a[0]);
            case "pulse": return x.pulse(a[0], a[1], a[2]);
            case "find": return x.find(a[0], a[1], a[2]);
            case "actAt": return x.actAt(a[0], a[1]);
            case "where": return x.where();
            case "met": return x.met();
            case "count": return x.count(a[0]);
            default: return x.digest();
        }
    }

    /** The document once more, slow and plain. */
    private static final class Model {
        static final int NONE = -1, BAD = -2, NO = -3, SPENT = -5, BAD_NUMBER = -2000000000;
        static final long BAD_PRODUCT = -2000000000000000000L;

        int r = 1, c = 1, t = 1, bits = 16, n = 0, m = 0, digits = 0;
        int[][] level = new int[1][1], age = new int[1][1];
        Integer[][] stuck = new Integer[1][1];
        int[] x = new int[1];
        int[][] numbers;
        int[] map;
        boolean laid;
        int[][] sealed;
        Answer found;
        int met;

        static final class Answer {
            int answer, met, cell;
            List<int[]> acts;
        }

        int greatest() {
            return (int) Math.pow(t + 1, digits) - 1;
        }

        boolean badCell(int i, int j) {
            return i < 0 || i >= r || j < 0 || j >= c;
        }

        long ask(int which, int[] a) {
            switch (CALL_NAMES[which]) {
                case "mesh": return mesh(a[0], a[1], a[2]);
                case "write":
                    if (badCell(a[0], a[1]) || a[2] < 0 || a[2] > t) return BAD;
                    if (stuck[a[0]][a[1]] != null && stuck[a[0]][a[1]] != a[2]) return NO;
                    level[a[0]][a[1]] = a[2];
                    age[a[0]][a[1]] = 0;
                    return 1;
                case "stick":
                    if (badCell(a[0], a[1]) || a[2] < -1 || a[2] > t) return BAD;
                    stuck[a[0]][a[1]] = a[2] == -1 ? null : a[2];
                    if (a[2] >= 0) level[a[0]][a[1]] = a[2];
                    return 1;
                case "cell":
                    if (badCell(a[0], a[1]) || a[2] < 0 || a[2] > 2) return BAD;
                    return new int[] {level[a[0]][a[1]], stickOf(a[0], a[1]), age[a[0]][a[1]]}[a[2]];
                case "input":
                    if (a[0] < 0 || a[0] >= r || a[1] < 0 || a[1] > 255) return BAD;
                    int was = x[a[0]];
                    x[a[0]] = a[1];
                    return was;
                case "bits":
                    if (a[0] < 1 || a[0] > 16) return BAD;
                    int before = bits;
                    bits = a[0];
                    return before;
                case "sum":
                    return a[0] < 0 || a[0] >= c ? BAD : told(weigh(a[0], x));
                case "table": return table(a[0], a[1], a[2]);
                case "number":
                    if (n == 0 || a[0] < 0 || a[0] >= n || a[1] < 0 || a[1] >= m) return BAD_NUMBER;
                    if (Math.abs((long) a[2]) > greatest()) return BAD_NUMBER;
                    int old = numbers[a[0]][a[1]];
                    numbers[a[0]][a[1]] = a[2];
                    return old;
                case "lay": return lay();
                case "product": return !laid || a[0] < 0 || a[0] >= m ? BAD_PRODUCT : product(a[0]);
                case "due": return n == 0 || a[0] < 0 || a[0] >= m ? BAD_PRODUCT : dueOf(a[0]);
                case "enough": return n == 0 ? NO : Integer.toBinaryString(n * t).length();
                case "map": return n == 0 ? NO : mapAnew();
                case "mapped":
                    if (a[0] < 0 || n > 0 && a[0] >= n) return BAD;
                    return n == 0 ? NO : map[a[0]];
                case "seal":
                    sealed = new int[r][];
                    for (int i = 0; i < r; i++) sealed[i] = level[i].clone();
                    return 1;
                case "look": return look();
                case "fade": return fade(a[0]);
                case "pulse": return pulse(a[0], a[1], a[2]);
                case "find": return find(a[0], a[1], a[2]);
                case "actAt":
                    if (a[1] < 0 || a[1] > 2) return BAD;
                    return found == null || a[0] < 0 || a[0] >= found.acts.size() ? NONE : found.acts.get(a[0])[a[1]];
                case "where": return found == null ? NONE : found.cell;
                case "met": return met;
                case "count": return count(a[0]);
                default: return digest();
            }
        }

        int stickOf(int i, int j) {
            return stuck[i][j] == null ? NONE : stuck[i][j];
        }

        int mesh(int newR, int newC, int newT) {
            if (newR < 1 || newR > 8 || newC < 1 || newC > 24 || newT < 1 || newT > 15) return BAD;
            r = newR;
            c = newC;
            t = newT;
            bits = 16;
            n = m = digits = 0;
            laid = false;
            sealed = null;
            level = new int[r][c];
            age = new int[r][c];
            stuck = new Integer[r][c];
            x = new int[r];
            return 1;
        }

        int weigh(int j, int[] by) {
            int total = 0;
            for (int i = 0; i < r; i++) total += by[i] * level[i][j];
            return total;
        }

        int told(int total) {
            int most = (int) Math.pow(2, bits) - 1;
            return total > most ? most : total;
        }

        int table(int newN, int newM, int newDigits) {
            if (newN < 1 || newN > r || newM < 1 || newM > 12 || newDigits < 1 || newDigits > 6) return BAD;
            if (2 * newDigits * newM > c) return NO;
            n = newN;
            m = newM;
            digits = newDigits;
            numbers = new int[n][m];
            map = new int[n];
            for (int i = 0; i < n; i++) map[i] = i;
            laid = false;
            return 1;
        }

        /** The level that table row i is to have in column j. */
        int toHave(int i, int j) {
            int v = numbers[i][j / (2 * digits)];
            boolean front = j % (2 * digits) < digits;
            if (front != v >= 0) return 0;
            return (int) (Math.abs(v) / Math.round(Math.pow(t + 1, j % digits)) % (t + 1));
        }

        int lay() {
            if (n == 0) return NO;
            int others = 0;
            for (int i = 0; i < n; i++) {
                for (int j = 0; j < 2 * digits * m; j++) {
                    age[map[i]][j] = 0;
                    if (stuck[map[i]][j] == null) level[map[i]][j] = toHave(i, j);
                    if (level[map[i]][j] != toHave(i, j)) others++;
                }
            }
            laid = true;
            return others;
        }

        long product(int k) {
            long total = 0;
            for (int b = 0; b < 8; b++) {
                int[] bit = new int[r];
                for (int i = 0; i < n; i++) bit[map[i]] = x[i] / (1 << b) % 2;
                for (int d = 0; d < digits; d++) {
                    long place = Math.round(Math.pow(t + 1, d));
                    total += (1 << b) * place * told(weigh(2 * digits * k + d, bit));
                    total -= (1 << b) * place * told(weigh(2 * digits * k + digits + d, bit));
                }
            }
            return total;
        }

        long dueOf(int k) {
            long total = 0;
            for (int i = 0; i < n; i++) total += (long) x[i] * numbers[i][k];
            return total;
        }

        int leastSum;

        int mapAnew() {
            int[][] costs = new int[n][r];
            for (int i = 0; i < n; i++) {
                for (int row = 0; row < r; row++) {
                    for (int j = 0; j < 2 * digits * m; j++) {
                        if (stuck[row][j] != null) costs[i][row] += Math.abs(stuck[row][j] - toHave(i, j));
                    }
                }
            }
            leastSum = Integer.MAX_VALUE;
            tryOrders(costs, new int[n], 0, 0);
            return leastSum;
        }

        void tryOrders(int[][] costs, int[] order, int i, int cost) {
            if (i == n) {
                if (cost < leastSum) {
                    leastSum = cost;
                    map = order.clone();
                }
                return;
            }
            for (int row = 0; row < r; row++) {
                boolean taken = false;
                for (int before = 0; before < i; before++) taken |= order[before] == row;
                if (!taken) {
                    order[i] = row;
                    tryOrders(costs, order, i + 1, cost + costs[i][row]);
                }
            }
        }

        int look() {
            if (sealed == null) return NO;
            int e = 0;
            int f = 0;
            for (int i = 0; i < r; i++) {
                for (int j = 0; j < c; j++) {
                    int more = x[i] * (level[i][j] - sealed[i][j]);
                    e = ((e + more) % 97 + 97) % 97;
                    f = ((f + (j + 1) * more) % 97 + 97) % 97;
                }
            }
            if (e == 0 && f == 0) return NONE;
            for (int j = 0; j < c; j++) {
                if (e != 0 && (e * (j + 1) - f) % 97 == 0) return j;
            }
            return 100;
        }

        int fade(int k) {
            if (k < 1 || k > 100) return BAD;
            int falls = 0;
            for (int i = 0; i < r; i++) {
                for (int j = 0; j < c; j++) {
                    for (int tick = 0; tick < k && stuck[i][j] == null; tick++) {
                        age[i][j]++;
                        if (level[i][j] > 0 && age[i][j] + level[i][j] >= 16) {
                            level[i][j]--;
                            age[i][j] = 0;
                            falls++;
                        }
                    }
                }
            }
            return falls;
        }

        int pulse(int i, int j, int v) {
            if (badCell(i, j) || v < 0 || v > t) return BAD;
            if (stuck[i][j] != null) return NO;
            int given = 0;
            for (; given < 40 && level[i][j] != v; given++) {
                if (level[i][j] > v) {
                    level[i][j] -= 1;
                } else {
                    level[i][j] = level[i][j] + 2 > t ? t : level[i][j] + 2;
                }
            }
            if (given > 0) age[i][j] = 0;
            return given;
        }

        int find(int k, int s, int table) {
            if (k < 1 || k > 3 || s < k || s > 5 || table < 0 || table >= 1 << (1 << k)) return BAD;
            Answer answer = lookedFor(k, s, table);
            met = answer.met;
            if (answer.answer >= 0) found = answer;
            return answer.answer;
        }

        /** Rows of acts as lists, all of one length, then those of one act more. */
        static Answer lookFor(int k, int s, int table) {
            int settings = 1 << k;
            int[] start = new int[s];
            for (int i = 0; i < k; i++) {
                for (int v = 0; v < settings; v++) start[i] += (v / (1 << i) % 2) << v;
            }
            Answer answer = new Answer();
            Set<String> known = new HashSet<>();
            known.add(Arrays.toString(start));
            List<int[]> tables = List.of(start);
            List<List<int[]>> rows = List.of(List.of());
            while (!tables.isEmpty()) {
                List<int[]> nextTables = new ArrayList<>();
                List<List<int[]>> nextRows = new ArrayList<>();
                for (int at = 0; at < tables.size(); at++) {
                    for (int cell = 0; cell < s; cell++) {
                        if (tables.get(at)[cell] == table) {
                            answer.answer = rows.get(at).size();
                            answer.acts = rows.get(at);
                            answer.cell = cell;
                            answer.met = known.size();
                            return answer;
                        }
                    }
                    for (int act = 0; act < s * s * s; act++) {
                        int a = act / (s * s);
                        int b = act / s % s;
                        int c = act % s;
                        if (b < a || c == a || c == b || c < k) continue;
                        int[] next = tables.get(at).clone();
                        next[c] = 0;
                        for (int v = 0; v < settings; v++) {
                            boolean one = (tables.get(at)[a] >> v & 1) == 1 || (tables.get(at)[b] >> v & 1) == 1;
                            next[c] += one ? 0 : 1 << v;
                        }
                        if (known.add(Arrays.toString(next))) {
                            if (known.size() > 8000) throw new IllegalStateException("no row of calls is to get here");
                            List<int[]> row = new ArrayList<>(rows.get(at));
                            row.add(new int[] {a, b, c});
                            nextTables.add(next);
                            nextRows.add(row);
                        }
                    }
                }
                tables = nextTables;
                rows = nextRows;
            }
            answer.answer = NONE;
            answer.met = known.size();
            return answer;
        }

        int count(int what) {
            int sticking = 0;
            for (Integer[] row : stuck) {
                for (Integer at : row) sticking += at == null ? 0 : 1;
            }
            int[] counts = {r, c, t, sticking, n, m, digits, laid ? 1 : 0, sealed == null ? 0 : 1};
            return what < 0 || what > 8 ? BAD : counts[what];
        }

        long digest() {
            List<Integer> all = new ArrayList<>();
            for (int what = 0; what <= 8; what++) all.add(count(what));
            for (int i = 0; i < r; i++) {
                for (int j = 0; j < c; j++) all.addAll(List.of(level[i][j], stickOf(i, j), age[i][j]));
            }
            for (int in : x) all.add(in);
            for (int i = 0; i < n; i++) {
                all.add(map[i]);
                for (int v : numbers[i]) all.add(v);
            }
            if (found != null) {
                for (int[] act : found.acts) all.addAll(List.of(act[0], act[1], act[2]));
            }
            long h = 167;
            for (int v : all) h = 31 * h + v;
            return h;
        }
    }
}
