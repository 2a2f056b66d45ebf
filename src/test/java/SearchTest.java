import java.util.Arrays;

/**
 * find() against all rows of ACTS of up to five, gone through one by one in the document's order with
 * no state remembered, so that nothing is left out that was met before.
 */
public final class SearchTest {
    private static final int LONGEST = 5;

    private static int wrong = 0;

    private final int inputs;
    private final int cells;
    private final int ones;
    private final int[][] firstRows;
    private final int[] cellOf;
    private int missing;

    private SearchTest(int inputs, int cells) {
        this.inputs = inputs;
        this.cells = cells;
        ones = (1 << (1 << inputs)) - 1;
        firstRows = new int[ones + 1][];
        cellOf = new int[ones + 1];
        missing = ones + 1;
    }

    private static void due(String call, long got, long want) {
        if (got != want) {
            wrong++;
            System.out.println(call + " answered " + got + ", due is " + want);
        }
    }

    private int[] start() {
        int[] tables = new int[cells];
        for (int v = 0; v < 1 << inputs; v++) {
            for (int i = 0; i < inputs; i++) {
                tables[i] |= (v >> i & 1) << v;
            }
        }
        return tables;
    }

    /** All rows of so many ACTS more behind those that are there, by a, then b, then c. */
    private void goThrough(int[] tables, int[] row, int acts) {
        if (acts == row.length) {
            take(tables, row);
            return;
        }
        for (int a = 0; a < cells; a++) {
            for (int b = a; b < cells; b++) {
                for (int c = inputs; c < cells; c++) {
                    if (c != a && c != b) {
                        int was = tables[c];
                        tables[c] = ones & ~(tables[a] | tables[b]);
                        row[acts] = 100 * a + 10 * b + c;
                        goThrough(tables, row, acts + 1);
                        tables[c] = was;
                    }
                }
            }
        }
    }

    private void take(int[] tables, int[] row) {
        for (int cell = 0; cell < cells; cell++) {
            int table = tables[cell];
            if (firstRows[table] == null) {
                firstRows[table] = row.clone();
                cellOf[table] = cell;
                missing--;
            }
        }
    }

    private void compare() {
        for (int length = 0; length <= LONGEST && missing > 0; length++) {
            goThrough(start(), new int[length], 0);
        }
        for (int table = 0; table <= ones; table++) {
            String call = "find(" + inputs + ", " + cells + ", " + table + ")";
            MeshSums x = new MeshSums();
            int answer = x.find(inputs, cells, table);
            int[] row = firstRows[table];
            if (row == null) {
                due("1 if " + call + " is none of five or fewer", answer == MeshSums.NONE || answer > LONGEST ? 1 : 0, 1);
                continue;
            }
            due(call, answer, row.length);
            due("where() behind " + call, x.where(), cellOf[table]);
            int[] got = new int[row.length];
            for (int i = 0; i < got.length; i++) {
                got[i] = 100 * x.actAt(i, 0) + 10 * x.actAt(i, 1) + x.actAt(i, 2);
            }
            due("1 if the ACTS of " + call + ", " + Arrays.toString(got) + ", are " + Arrays.toString(row), Arrays.equals(got, row) ? 1 : 0, 1);
        }
    }

    public static void main(String[] args) {
        for (int inputs = 1; inputs <= 3; inputs++) {
            for (int cells = inputs; cells <= 5; cells++) {
                new SearchTest(inputs, cells).compare();
            }
        }
        System.out.println(wrong == 0 ? "all rows of ACTS are as due" : wrong + " answers are not as due");
        if (wrong != 0) {
            System.exit(1);
        }
    }
}
