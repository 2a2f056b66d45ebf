/** Each promise of the document by hand: ordinary inputs, the edges that it names, wrong inputs. */
public final class PromiseTest {
    private static final int NONE = -1, BAD = -2, NO = -3;
    private static final int BAD_NUMBER = -2000000000;
    private static final long BAD_PRODUCT = -2000000000000000000L;
    private static final int LEAST = Integer.MIN_VALUE, MOST = Integer.MAX_VALUE;

    private static int wrong = 0;
    private static int asked = 0;

    private static void due(int promise, String call, long got, long want) {
        asked++;
        if (got != want) {
            wrong++;
            System.out.println("promise " + promise + ": " + call + " answered " + got + ", due is " + want);
        }
    }

    private static MeshSums meshOf(int r, int c, int t) {
        MeshSums x = new MeshSums();
        x.mesh(r, c, t);
        return x;
    }

    private static long hash(long... values) {
        long h = 167;
        for (long v : values) {
            h = 31 * h + v;
        }
        return h;
    }

    /** A refusal changes nothing: the digest, and what the digest does not tell, stay. */
    private static void refused(int promise, MeshSums x, String call, long before, long got, long want) {
        due(promise, call, got, want);
        due(promise, "digest() behind " + call, x.digest(), before);
    }

    private static void newObject() {
        MeshSums x = new MeshSums();
        int[] counts = {1, 1, 1, 0, 0, 0, 0, 0, 0};
        for (int what = 0; what < counts.length; what++) {
            due(1, "count(" + what + ")", x.count(what), counts[what]);
        }
        due(1, "cell(0, 0, 0)", x.cell(0, 0, 0), 0);
        due(1, "cell(0, 0, 1)", x.cell(0, 0, 1), NONE);
        due(1, "cell(0, 0, 2)", x.cell(0, 0, 2), 0);
        due(1, "look()", x.look(), NO);
        due(1, "lay()", x.lay(), NO);
        due(1, "where()", x.where(), NONE);
        due(1, "met()", x.met(), 0);
        due(1, "bits(16)", x.bits(16), 16);
        due(1, "input(0, 0)", x.input(0, 0), 0);
        due(1, "write(0, 0, 1)", x.write(0, 0, 1), 1);
        due(1, "write(0, 0, 2)", x.write(0, 0, 2), BAD);
        due(1, "NONE", MeshSums.NONE, -1);
        due(1, "BAD", MeshSums.BAD, -2);
        due(1, "NO", MeshSums.NO, -3);
        due(1, "SPENT", MeshSums.SPENT, -5);
    }

    private static void mesh() {
        MeshSums x = new MeshSums();
        due(2, "mesh(8, 24, 15)", x.mesh(8, 24, 15), 1);
        due(2, "write(7, 23, 15)", x.write(7, 23, 15), 1);
        x.stick(0, 3, 2);
        x.fade(1);
        x.input(2, 9);
        x.bits(3);
        x.table(2, 1, 1);
        x.number(0, 0, 4);
        x.lay();
        x.seal();
        x.find(1, 2, 1);
        long before = x.digest();
        int[][] bad = {{0, 1, 1}, {9, 1, 1}, {1, 0, 1}, {1, 25, 1}, {1, 1, 0}, {1, 1, 16}, {LEAST, 1, 1}, {1, MOST, 1}, {1, 1, -1}};
        for (int[] b : bad) {
            refused(2, x, "mesh(" + b[0] + ", " + b[1] + ", " + b[2] + ")", before, x.mesh(b[0], b[1], b[2]), BAD);
        }
        due(2, "bits(3) behind refusals", x.bits(3), 3);
        due(2, "mesh(8, 24, 15) again", x.mesh(8, 24, 15), 1);
        for (int r = 0; r < 8; r++) {
            due(2, "input renewed", x.input(r, 0), 0);
        }
        int[][] cells = {{7, 23}, {0, 3}, {0, 0}, {7, 0}, {0, 23}, {4, 11}};
        for (int[] at : cells) {
            due(2, "level renewed", x.cell(at[0], at[1], 0), 0);
            due(2, "stick renewed", x.cell(at[0], at[1], 1), NONE);
            due(2, "age renewed", x.cell(at[0], at[1], 2), 0);
        }
        due(2, "bits(16) renewed", x.bits(16), 16);
        int[] counts = {8, 24, 15, 0, 0, 0, 0, 0, 0};
        for (int what = 0; what < counts.length; what++) {
            due(2, "count(" + what + ") renewed", x.count(what), counts[what]);
        }
        due(2, "look() renewed", x.look(), NO);
        due(2, "what was FOUND stays: where()", x.where(), 1);
        due(2, "what was FOUND stays: actAt(0, 2)", x.actAt(0, 2), 1);
        due(2, "what was FOUND stays: met()", x.met(), 2);
        due(2, "mesh(1, 1, 1)", x.mesh(1, 1, 1), 1);
        due(2, "cell(0, 1, 0)", x.cell(0, 1, 0), BAD);
    }

    private static void write() {
        MeshSums x = meshOf(2, 3, 5);
        due(3, "write(1, 2, 5)", x.write(1, 2, 5), 1);
        due(3, "cell(1, 2, 0)", x.cell(1, 2, 0), 5);
        due(3, "cell(0, 0, 0)", x.cell(0, 0, 0), 0);
        x.fade(4);
        due(3, "age ahead of a write", x.cell(1, 2, 2), 4);
        due(3, "write(1, 2, 5)", x.write(1, 2, 5), 1);
        due(3, "age behind a write", x.cell(1, 2, 2), 0);
        due(3, "write(1, 2, 0)", x.write(1, 2, 0), 1);
        due(3, "cell(1, 2, 0)", x.cell(1, 2, 0), 0);
        x.fade(3);
        x.stick(0, 1, 2);
        long before = x.digest();
        refused(3, x, "write(0, 1, 3)", before, x.write(0, 1, 3), NO);
        refused(3, x, "write(-1, 0, 0)", before, x.write(-1, 0, 0), BAD);
        refused(3, x, "write(2, 0, 0)", before, x.write(2, 0, 0), BAD);
        refused(3, x, "write(0, -1, 0)", before, x.write(0, -1, 0), BAD);
        refused(3, x, "write(0, 3, 0)", before, x.write(0, 3, 0), BAD);
        refused(3, x, "write(0, 0, 6)", before, x.write(0, 0, 6), BAD);
        refused(3, x, "write(0, 1, 6): BAD ahead of NO", before, x.write(0, 1, 6), BAD);
        refused(3, x, "write(0, 0, -1)", before, x.write(0, 0, -1), BAD);
        due(3, "write(0, 1, 2) at what it sticks", x.write(0, 1, 2), 1);
        due(3, "age behind it", x.cell(0, 1, 2), 0);
    }

    private static void stick() {
        MeshSums x = meshOf(2, 3, 5);
        x.write(1, 1, 4);
        x.fade(3);
        due(4, "stick(1, 1, 1)", x.stick(1, 1, 1), 1);
        due(4, "cell(1, 1, 0)", x.cell(1, 1, 0), 1);
        due(4, "cell(1, 1, 1)", x.cell(1, 1, 1), 1);
        due(4, "its age stays", x.cell(1, 1, 2), 3);
        due(4, "stick(1, 1, 5)", x.stick(1, 1, 5), 1);
        due(4, "cell(1, 1, 0)", x.cell(1, 1, 0), 5);
        due(4, "stick(1, 1, -1)", x.stick(1, 1, -1), 1);
        due(4, "it keeps that which it has", x.cell(1, 1, 0), 5);
        due(4, "cell(1, 1, 1)", x.cell(1, 1, 1), NONE);
        due(4, "its age stays", x.cell(1, 1, 2), 3);
        due(4, "stick(0, 0, 0)", x.stick(0, 0, 0), 1);
        due(4, "cell(0, 0, 1)", x.cell(0, 0, 1), 0);
        due(4, "stick(0, 1, -1) of one that does not", x.stick(0, 1, -1), 1);
        long before = x.digest();
        refused(4, x, "stick(0, 0, 6)", before, x.stick(0, 0, 6), BAD);
        refused(4, x, "stick(0, 0, -2)", before, x.stick(0, 0, -2), BAD);
        refused(4, x, "stick(2, 0, 1)", before, x.stick(2, 0, 1), BAD);
        refused(4, x, "stick(0, 3, 1)", before, x.stick(0, 3, 1), BAD);
        refused(4, x, "stick(-1, 0, 1)", before, x.stick(-1, 0, 1), BAD);
        refused(4, x, "stick(0, -1, 1)", before, x.stick(0, -1, 1), BAD);
    }

    private static void cell() {
        MeshSums x = meshOf(2, 3, 5);
        x.stick(1, 2, 4);
        x.write(0, 2, 3);
        x.fade(2);
        due(5, "cell(1, 2, 0)", x.cell(1, 2, 0), 4);
        due(5, "cell(1, 2, 1)", x.cell(1, 2, 1), 4);
        due(5, "cell(1, 2, 2)", x.cell(1, 2, 2), 0);
        due(5, "cell(0, 2, 0)", x.cell(0, 2, 0), 3);
        due(5, "cell(0, 2, 1)", x.cell(0, 2, 1), NONE);
        due(5, "cell(0, 2, 2)", x.cell(0, 2, 2), 2);
        int[][] bad = {{-1, 0, 0}, {2, 0, 0}, {0, -1, 0}, {0, 3, 0}, {0, 0, -1}, {0, 0, 3}, {MOST, 0, 0}, {0, LEAST, 0}, {0, 0, MOST}};
        for (int[] b : bad) {
            due(5, "cell(" + b[0] + ", " + b[1] + ", " + b[2] + ")", x.cell(b[0], b[1], b[2]), BAD);
        }
    }

    private static void input() {
        MeshSums x = meshOf(3, 1, 1);
        due(6, "input(2, 255)", x.input(2, 255), 0);
        due(6, "input(2, 7)", x.input(2, 7), 255);
        due(6, "input(0, 1)", x.input(0, 1), 0);
        due(6, "input(2, 256)", x.input(2, 256), BAD);
        due(6, "input(2, -1)", x.input(2, -1), BAD);
        due(6, "input(3, 0)", x.input(3, 0), BAD);
        due(6, "input(-1, 0)", x.input(-1, 0), BAD);
        due(6, "input(2, 0)", x.input(2, 0), 7);
        due(6, "input(0, 0)", x.input(0, 0), 1);
    }

    private static void bits() {
        MeshSums x = new MeshSums();
        due(7, "bits(1)", x.bits(1), 16);
        due(7, "bits(16)", x.bits(16), 1);
        due(7, "bits(0)", x.bits(0), BAD);
        due(7, "bits(17)", x.bits(17), BAD);
        due(7, "bits(-1)", x.bits(-1), BAD);
        due(7, "bits(5)", x.bits(5), 16);
        due(7, "bits(5)", x.bits(5), 5);
    }

    private static void sum() {
        MeshSums x = meshOf(8, 2, 15);
        for (int r = 0; r < 8; r++) {
            x.write(r, 1, 15);
            x.input(r, 255);
        }
        due(8, "sum(1)", x.sum(1), 8 * 15 * 255);
        due(8, "sum(0)", x.sum(0), 0);
        x.bits(14);
        due(8, "sum(1) told by 14 bits", x.sum(1), 16383);
        x.bits(15);
        due(8, "sum(1) told by 15 bits", x.sum(1), 30600);
        x.write(0, 0, 3);
        x.bits(1);
        due(8, "sum(0) told by 1 bit", x.sum(0), 1);
        x.bits(9);
        due(8, "sum(0) told by 9 bits", x.sum(0), 511);
        x.bits(10);
        due(8, "sum(0) told by 10 bits", x.sum(0), 765);
        due(8, "sum(-1)", x.sum(-1), BAD);
        due(8, "sum(2)", x.sum(2), BAD);
        due(8, "sum(MOST)", x.sum(MOST), BAD);
    }

    private static void table() {
        MeshSums x = meshOf(3, 24, 3);
        due(9, "table(3, 12, 1)", x.table(3, 12, 1), 1);
        due(9, "table(3, 2, 6)", x.table(3, 2, 6), 1);
        due(9, "table(2, 2, 2)", x.table(2, 2, 2), 1);
        x.number(1, 1, -9);
        x.stick(0, 0, 1);
        x.map();
        due(9, "mapped(1) ahead", x.mapped(1), 2);
        x.lay();
        long before = x.digest();
        int[][] bad = {{0, 1, 1}, {4, 1, 1}, {1, 0, 1}, {1, 13, 1}, {1, 1, 0}, {1, 1, 7}, {4, 12, 6}, {-1, 1, 1}, {1, LEAST, 1}, {1, 1, MOST}};
        for (int[] b : bad) {
            refused(9, x, "table(" + b[0] + ", " + b[1] + ", " + b[2] + ")", before, x.table(b[0], b[1], b[2]), BAD);
        }
        refused(9, x, "table(1, 5, 3)", before, x.table(1, 5, 3), NO);
        refused(9, x, "table(1, 12, 2)", before, x.table(1, 12, 2), NO);
        due(9, "count(7) ahead", x.count(7), 1);
        due(9, "table(2, 2, 2)", x.table(2, 2, 2), 1);
        due(9, "nothing is LAID", x.count(7), 0);
        due(9, "product(0)", x.product(0), BAD_PRODUCT);
        due(9, "mapped(0)", x.mapped(0), 0);
        due(9, "mapped(1)", x.mapped(1), 1);
        due(9, "all 0", x.number(1, 1, 0), 0);
        due(9, "CELLS stay", x.cell(2, 6, 0), 1);
        MeshSums small = meshOf(8, 3, 1);
        due(9, "table(8, 1, 1)", small.table(8, 1, 1), 1);
        due(9, "table(8, 1, 2)", small.table(8, 1, 2), NO);
        due(9, "table(8, 2, 1)", small.table(8, 2, 1), NO);
    }

    private static void number() {
        MeshSums x = meshOf(2, 24, 15);
        due(10, "number without a table", x.number(0, 0, 0), BAD_NUMBER);
        x.table(2, 2, 6);
        due(10, "number(1, 1, 16777215)", x.number(1, 1, 16777215), 0);
        due(10, "number(1, 1, -16777215)", x.number(1, 1, -16777215), 16777215);
        due(10, "number(1, 1, 16777216)", x.number(1, 1, 16777216), BAD_NUMBER);
        due(10, "number(1, 1, -16777216)", x.number(1, 1, -16777216), BAD_NUMBER);
        due(10, "number(1, 1, LEAST)", x.number(1, 1, LEAST), BAD_NUMBER);
        due(10, "number(1, 1, MOST)", x.number(1, 1, MOST), BAD_NUMBER);
        due(10, "number(2, 0, 0)", x.number(2, 0, 0), BAD_NUMBER);
        due(10, "number(-1, 0, 0)", x.number(-1, 0, 0), BAD_NUMBER);
        due(10, "number(0, 2, 0)", x.number(0, 2, 0), BAD_NUMBER);
        due(10, "number(0, -1, 0)", x.number(0, -1, 0), BAD_NUMBER);
        due(10, "number(1, 1, 5)", x.number(1, 1, 5), -16777215);
        due(10, "number(0, 1, 0)", x.number(0, 1, 0), 0);
        due(10, "number(1, 0, 0)", x.number(1, 0, 0), 0);
        x.lay();
        x.input(1, 1);
        due(10, "number(1, 1, 6)", x.number(1, 1, 6), 5);
        due(10, "what is LAID stays", x.count(7), 1);
        due(10, "product(1)", x.product(1), 5);
        due(10, "due(1)", x.due(1), 6);
        x.table(1, 1, 1);
        due(10, "number(0, 0, 15)", x.number(0, 0, 15), 0);
        due(10, "number(0, 0, 16)", x.number(0, 0, 16), BAD_NUMBER);
        due(10, "number(1, 0, 1)", x.number(1, 0, 1), BAD_NUMBER);
    }

    private static void lay() {
        MeshSums x = meshOf(3, 9, 3);
        due(11, "lay() without a table", x.lay(), NO);
        x.table(2, 2, 2);
        x.number(0, 0, 11);
        x.number(0, 1, -7);
        x.number(1, 0, -15);
        for (int c = 0; c < 9; c++) {
            x.write(0, c, 1);
            x.write(2, c, 2);
        }
        x.fade(3);
        due(11, "lay()", x.lay(), 0);
        int[][] levels = {{3, 2, 0, 0, 0, 0, 3, 1, 1}, {0, 0, 3, 3, 0, 0, 0, 0, 0}, {2, 2, 2, 2, 2, 2, 2, 2, 2}};
        for (int r = 0; r < 3; r++) {
            for (int c = 0; c < 9; c++) {
                due(11, "cell(" + r + ", " + c + ", 0)", x.cell(r, c, 0), levels[r][c]);
                due(11, "cell(" + r + ", " + c + ", 2)", x.cell(r, c, 2), r < 2 && c < 8 ? 0 : 3);
            }
        }
        due(11, "count(7)", x.count(7), 1);
        x.fade(2);
        x.stick(0, 0, 3);
        x.stick(0, 1, 0);
        x.stick(1, 7, 1);
        x.stick(0, 8, 0);
        x.stick(2, 0, 0);
        due(11, "lay() with CELLS that STICK", x.lay(), 2);
        due(11, "cell(0, 1, 0)", x.cell(0, 1, 0), 0);
        due(11, "a CELL that STICKS at another LEVEL was written, too", x.cell(0, 1, 2), 0);
        due(11, "a CELL that STICKS at its LEVEL was written, too", x.cell(0, 0, 2), 0);
        x.stick(0, 1, NONE);
        due(11, "cell(0, 1, 0) keeps what it has", x.cell(0, 1, 0), 0);
    }

    private static void product() {
        MeshSums x = meshOf(2, 24, 15);
        due(12, "product(0) without a table", x.product(0), BAD_PRODUCT);
        x.table(2, 2, 6);
        due(12, "product(0), nothing LAID", x.product(0), BAD_PRODUCT);
        x.number(0, 0, 16777215);
        x.number(1, 0, 16777215);
        x.number(0, 1, -16777215);
        x.number(1, 1, 1);
        x.lay();
        x.input(0, 255);
        x.input(1, 255);
        due(12, "product(0)", x.product(0), 16777215L * 510);
        due(12, "product(1)", x.product(1), -16777215L * 255 + 255);
        due(12, "product(-1)", x.product(-1), BAD_PRODUCT);
        due(12, "product(2)", x.product(2), BAD_PRODUCT);
        // Each digit's sum, 30, is told as 7: so each bit of the inputs counts 7 times 1118481.
        x.bits(3);
        due(12, "product(0) by 3 bits", x.product(0), 255L * 7 * 1118481);
        x.bits(16);
        x.write(1, 0, 14);
        due(12, "product(0) by what the CELLS have", x.product(0), 16777215L * 510 - 255);

        MeshSums y = meshOf(3, 2, 3);
        y.table(2, 1, 1);
        y.number(0, 0, 2);
        y.number(1, 0, -3);
        y.write(2, 0, 3);
        y.input(0, 5);
        y.input(1, 6);
        y.input(2, 100);
        y.lay();
        due(12, "product(0): other ROWS get nothing", y.product(0), 5 * 2 - 6 * 3);
        y.stick(0, 0, 1);
        y.stick(0, 1, 1);
        y.map();
        due(12, "mapped(0)", y.mapped(0), 1);
        due(12, "mapped(1)", y.mapped(1), 2);
        y.lay();
        due(12, "product(0): the input of row i goes to its ROW", y.product(0), 5 * 2 - 6 * 3);
    }

    private static void due() {
        MeshSums x = meshOf(2, 24, 15);
        due(13, "due(0) without a table", x.due(0), BAD_PRODUCT);
        x.table(2, 2, 6);
        x.number(0, 0, 16777215);
        x.number(1, 0, 16777215);
        x.number(0, 1, -16777215);
        x.input(0, 255);
        x.input(1, 254);
        due(13, "due(0), nothing LAID", x.due(0), 16777215L * 509);
        due(13, "due(1)", x.due(1), -16777215L * 255);
        due(13, "due(-1)", x.due(-1), BAD_PRODUCT);
        due(13, "due(2)", x.due(2), BAD_PRODUCT);
        x.bits(1);
        x.stick(0, 0, 0);
        x.lay();
        due(13, "due(0) by its own numbers", x.due(0), 16777215L * 509);
        x.map();
        due(13, "due(0) by its own inputs", x.due(0), 16777215L * 509);
        x.mesh(2, 24, 15);
        due(13, "due(0) behind mesh", x.due(0), BAD_PRODUCT);
    }

    private static void enough() {
        MeshSums x = new MeshSums();
        due(14, "enough() without a table", x.enough(), NO);
        int[][] cases = {{1, 1, 1}, {2, 1, 2}, {3, 1, 2}, {4, 1, 3}, {7, 1, 3}, {8, 1, 4}, {1, 15, 4}, {2, 15, 5}, {1, 3, 2}, {5, 3, 4}, {8, 15, 7}};
        for (int[] c : cases) {
            x.mesh(8, 2, c[1]);
            x.table(c[0], 1, 1);
            due(14, "enough() for n " + c[0] + ", t " + c[1], x.enough(), c[2]);
        }
    }

    private static void map() {
        MeshSums x = meshOf(3, 2, 9);
        due(15, "map() without a table", x.map(), NO);
        x.table(2, 1, 1);
        due(15, "map() where none STICKS", x.map(), 0);
        due(15, "mapped(0)", x.mapped(0), 0);
        due(15, "mapped(1)", x.mapped(1), 1);
        x.number(0, 0, 4);
        x.number(1, 0, -6);
        // Row 0 is to have 4 0, row 1 0 6: on ROWS 0, 1, 2 row 0 costs 4, 7, 1, and row 1 6, 3, 11.
        x.stick(0, 0, 1);
        x.stick(0, 1, 1);
        x.stick(1, 0, 0);
        x.stick(1, 1, 3);
        x.stick(2, 0, 5);
        x.stick(2, 1, 0);
        x.lay();
        long product = x.product(0);
        due(15, "map()", x.map(), 4);
        due(15, "mapped(0)", x.mapped(0), 2);
        due(15, "mapped(1)", x.mapped(1), 1);
        due(15, "what is LAID stays", x.count(7), 1);
        due(15, "CELLS stay", x.cell(0, 0, 0), 1);
        due(15, "product with inputs 0", x.product(0), product);

        MeshSums y = meshOf(8, 2, 1);
        y.table(8, 1, 1);
        for (int i = 0; i < 8; i++) {
            y.number(i, 0, i < 4 ? 1 : -1);
            y.stick(i, 0, i % 2);
            y.stick(i, 1, 1 - i % 2);
        }
        due(15, "map() of 8", y.map(), 0);
        int[] rows = {1, 3, 5, 7, 0, 2, 4, 6};
        for (int i = 0; i < 8; i++) {
            due(15, "mapped(" + i + ") of 8", y.mapped(i), rows[i]);
        }
        y.mesh(2, 3, 3);
        y.table(1, 1, 1);
        y.stick(0, 2, 3);
        due(15, "map() past a CELL behind the table's", y.map(), 0);
        due(15, "mapped(0)", y.mapped(0), 0);
    }

    private static void mapped() {
        MeshSums x = meshOf(3, 2, 1);
        due(16, "mapped(0) without a table", x.mapped(0), NO);
        due(16, "mapped(3) without a table", x.mapped(3), NO);
        due(16, "mapped(7) without a table", x.mapped(7), NO);
        due(16, "mapped(-1) without a table", x.mapped(-1), BAD);
        due(16, "mapped(LEAST) without a table", x.mapped(LEAST), BAD);
        x.table(2, 1, 1);
        due(16, "mapped(0)", x.mapped(0), 0);
        due(16, "mapped(1)", x.mapped(1), 1);
        due(16, "mapped(2)", x.mapped(2), BAD);
        due(16, "mapped(-1)", x.mapped(-1), BAD);
        due(16, "mapped(MOST)", x.mapped(MOST), BAD);
        x.stick(0, 0, 1);
        x.map();
        due(16, "mapped(0) anew", x.mapped(0), 1);
        due(16, "mapped(1) anew", x.mapped(1), 2);
        x.mesh(3, 2, 1);
        due(16, "mapped(0) behind mesh()", x.mapped(0), NO);
        due(16, "mapped(-1) behind mesh()", x.mapped(-1), BAD);
    }

    private static void seal() {
        MeshSums x = meshOf(2, 3, 4);
        x.input(0, 1);
        due(17, "seal()", x.seal(), 1);
        due(17, "count(8)", x.count(8), 1);
        x.write(0, 1, 4);
        due(17, "look() behind a write", x.look(), 1);
        due(17, "seal() anew", x.seal(), 1);
        due(17, "look() behind it", x.look(), NONE);
        x.write(0, 1, 0);
        due(17, "look() at one that is less", x.look(), 1);
        x.table(1, 1, 1);
        due(17, "count(8) behind table", x.count(8), 1);
        x.mesh(2, 3, 4);
        due(17, "count(8) behind mesh", x.count(8), 0);
    }

    private static void look() {
        MeshSums x = meshOf(8, 24, 15);
        due(18, "look(), not SEALED", x.look(), NO);
        for (int r = 0; r < 8; r++) {
            x.input(r, 255 - r);
            for (int c = 0; c < 24; c++) {
                x.write(r, c, 15 - (r + c) % 16);
            }
        }
        x.seal();
        due(18, "look() at the greatest sums", x.look(), NONE);
        x.bits(1);
        due(18, "look() goes past CONVERTERS", x.look(), NONE);
        for (int c = 0; c < 24; c++) {
            int was = x.cell(3, c, 0);
            x.write(3, c, was == 0 ? 7 : 0);
            due(18, "look(), COLUMN " + c, x.look(), c);
            x.write(3, c, was);
        }
        due(18, "look() at all as it was", x.look(), NONE);

        MeshSums y = meshOf(2, 3, 15);
        y.seal();
        y.write(0, 0, 1);
        due(18, "look() with inputs 0", y.look(), NONE);
        y.input(0, 1);
        due(18, "look() with an input", y.look(), 0);
        y.write(0, 2, 1);
        due(18, "look(): 1 and 1 more look as COLUMN 1", y.look(), 1);
        // e is 3 and f 1 + 2 * 3, which is no column's
        y.write(0, 2, 2);
        due(18, "look(): several", y.look(), 100);
        // e is 97, f 10 + 3 * 87: e is 0, f not
        y.input(0, 10);
        y.input(1, 29);
        y.write(0, 0, 1);
        y.write(0, 2, 0);
        y.write(1, 2, 3);
        due(18, "look(): e 0 alone", y.look(), 100);
        // f is e times 4 by 97, and there is no COLUMN 3
        y.mesh(2, 3, 15);
        y.seal();
        y.input(0, 1);
        y.input(1, 95);
        y.write(0, 2, 2);
        y.write(1, 1, 1);
        y.write(0, 1, 1);
        due(18, "look(): e 1, f 2 * 96 + 6 less 194, 4", y.look(), 100);
        y.mesh(2, 4, 15);
        y.seal();
        y.input(0, 1);
        y.input(1, 95);
        y.write(0, 2, 2);
        y.write(1, 1, 1);
        y.write(0, 1, 1);
        due(18, "look(): the same with a COLUMN 3", y.look(), 3);
    }

    private static void fade() {
        MeshSums x = meshOf(1, 3, 15);
        x.write(0, 0, 15);
        x.write(0, 1, 1);
        due(19, "fade(1)", x.fade(1), 1);
        due(19, "15 falls at once", x.cell(0, 0, 0), 14);
        due(19, "its age begins anew", x.cell(0, 0, 2), 0);
        due(19, "1 stays", x.cell(0, 1, 0), 1);
        due(19, "fade(2)", x.fade(2), 1);
        due(19, "fade(3)", x.fade(3), 1);
        due(19, "12", x.cell(0, 0, 0), 12);
        due(19, "fade(8)", x.fade(8), 1);
        due(19, "1 has 14", x.cell(0, 1, 2), 14);
        due(19, "fade(1)", x.fade(1), 2);
        due(19, "1 falls at 15", x.cell(0, 1, 0), 0);
        // 10 falls behind 6 ticks, 9 behind 7 .. 2 behind 14: 90 of the 100.
        due(19, "fade(100)", x.fade(100), 9);
        due(19, "0 grows older", x.cell(0, 2, 2), 115);
        due(19, "0 does not fall", x.cell(0, 2, 0), 0);
        due(19, "0 grows older since it fell", x.cell(0, 1, 2), 100);
        long before = x.digest();
        refused(19, x, "fade(0)", before, x.fade(0), BAD);
        refused(19, x, "fade(101)", before, x.fade(101), BAD);
        refused(19, x, "fade(-1)", before, x.fade(-1), BAD);
        x.stick(0, 2, 9);
        due(19, "fade(50)", x.fade(50), 1);
        due(19, "one that STICKS is no older", x.cell(0, 2, 2), 115);
        x.stick(0, 2, NONE);
        due(19, "an age above 16 less its LEVEL", x.fade(1), 1);
        due(19, "8", x.cell(0, 2, 0), 8);
        due(19, "its age", x.cell(0, 2, 2), 0);
    }

    private static void pulse() {
        MeshSums x = meshOf(2, 2, 15);
        due(20, "pulse(1, 1, 15)", x.pulse(1, 1, 15), 8);
        due(20, "15 at most", x.cell(1, 1, 0), 15);
        due(20, "pulse(1, 1, 0)", x.pulse(1, 1, 0), 15);
        due(20, "pulse(1, 1, 7)", x.pulse(1, 1, 7), 5);
        due(20, "cell(1, 1, 0)", x.cell(1, 1, 0), 7);
        x.fade(5);
        due(20, "pulse(1, 1, 7)", x.pulse(1, 1, 7), 0);
        due(20, "age where none was given", x.cell(1, 1, 2), 5);
        due(20, "pulse(1, 1, 8)", x.pulse(1, 1, 8), 2);
        due(20, "age where some were", x.cell(1, 1, 2), 0);
        x.stick(0, 0, 3);
        x.fade(1);
        long before = x.digest();
        refused(20, x, "pulse(0, 0, 3)", before, x.pulse(0, 0, 3), NO);
        refused(20, x, "pulse(0, 0, 16): BAD ahead of NO", before, x.pulse(0, 0, 16), BAD);
        refused(20, x, "pulse(0, 1, 16)", before, x.pulse(0, 1, 16), BAD);
        refused(20, x, "pulse(0, 1, -1)", before, x.pulse(0, 1, -1), BAD);
        refused(20, x, "pulse(2, 0, 1)", before, x.pulse(2, 0, 1), BAD);
        refused(20, x, "pulse(-1, 0, 1)", before, x.pulse(-1, 0, 1), BAD);
        refused(20, x, "pulse(0, 2, 1)", before, x.pulse(0, 2, 1), BAD);
        refused(20, x, "pulse(0, -1, 1)", before, x.pulse(0, -1, 1), BAD);
        MeshSums y = meshOf(1, 1, 1);
        due(20, "pulse(0, 0, 1) with t 1", y.pulse(0, 0, 1), 1);
        due(20, "cell(0, 0, 0)", y.cell(0, 0, 0), 1);
    }

    private static void find() {
        MeshSums x = new MeshSums();
        int[][] bad = {{0, 1, 0}, {4, 5, 0}, {1, 0, 0}, {2, 1, 0}, {3, 2, 0}, {1, 6, 0}, {1, 1, -1}, {1, 1, 4}, {2, 3, 16}, {3, 4, 256}, {LEAST, 5, 0}, {MOST, MOST, 0}, {1, 5, MOST}};
        for (int[] b : bad) {
            due(21, "find(" + b[0] + ", " + b[1] + ", " + b[2] + ")", x.find(b[0], b[1], b[2]), BAD);
        }
        due(21, "met() behind BAD", x.met(), 0);
        due(21, "find(3, 3, 240)", x.find(3, 3, 240), 0);
        due(21, "where()", x.where(), 2);
        due(21, "find(3, 4, 0)", x.find(3, 4, 0), 0);
        due(21, "where()", x.where(), 3);
        due(21, "find(1, 1, 3)", x.find(1, 1, 3), NONE);
        due(21, "find(2, 3, 1): nor", x.find(2, 3, 1), 1);
        due(21, "find(1, 3, 3): not of what is 0", x.find(1, 3, 3), 1);
        due(21, "actAt(0, 0): the first CELL that is 0", x.actAt(0, 0), 1);
        due(21, "find(2, 5, 8): and", x.find(2, 5, 8), 3);
        int[][] acts = {{0, 0, 2}, {1, 1, 3}, {2, 3, 4}};
        for (int i = 0; i < acts.length; i++) {
            for (int what = 0; what < 3; what++) {
                due(21, "actAt(" + i + ", " + what + ")", x.actAt(i, what), acts[i][what]);
            }
        }
        due(21, "find(2, 4, 8): and, with too few CELLS", x.find(2, 4, 8), NONE);
        due(21, "what was FOUND stays", x.actAt(2, 2), 4);
        due(21, "find(3, 5, 256)", x.find(3, 5, 256), BAD);
        due(21, "what was FOUND stays", x.where(), 4);
        due(21, "find(2, 5, 6): xor", x.find(2, 5, 6), 5);
        due(21, "find(1, 5, 0)", x.find(1, 5, 0), 0);
        due(21, "find(3, 5, 255)", x.find(3, 5, 255), 1);
    }

    private static void actAt() {
        MeshSums x = new MeshSums();
        due(22, "actAt(0, 0), nothing FOUND", x.actAt(0, 0), NONE);
        due(22, "actAt(0, 3), nothing FOUND", x.actAt(0, 3), BAD);
        x.find(2, 3, 1);
        due(22, "actAt(0, 0)", x.actAt(0, 0), 0);
        due(22, "actAt(0, 1)", x.actAt(0, 1), 1);
        due(22, "actAt(0, 2)", x.actAt(0, 2), 2);
        due(22, "actAt(1, 0)", x.actAt(1, 0), NONE);
        due(22, "actAt(-1, 0)", x.actAt(-1, 0), NONE);
        due(22, "actAt(MOST, 2)", x.actAt(MOST, 2), NONE);
        due(22, "actAt(LEAST, 2)", x.actAt(LEAST, 2), NONE);
        due(22, "actAt(0, -1)", x.actAt(0, -1), BAD);
        due(22, "actAt(0, 3)", x.actAt(0, 3), BAD);
        due(22, "actAt(9, 3): BAD ahead of NONE", x.actAt(9, 3), BAD);
        x.find(2, 3, 10);
        due(22, "actAt(0, 0) behind a find without ACTS", x.actAt(0, 0), NONE);
    }

    private static void where() {
        MeshSums x = new MeshSums();
        due(23, "where(), nothing FOUND", x.where(), NONE);
        x.find(1, 1, 3);
        due(23, "where(), none FOUND", x.where(), NONE);
        x.find(2, 2, 12);
        due(23, "where()", x.where(), 1);
        x.find(1, 4, 0);
        due(23, "where(): the least", x.where(), 1);
        x.find(1, 1, 3);
        due(23, "where() stays", x.where(), 1);
        x.find(1, 9, 3);
        due(23, "where() stays", x.where(), 1);
        x.mesh(2, 2, 2);
        due(23, "where() behind mesh", x.where(), 1);
    }

    private static void met() {
        MeshSums x = new MeshSums();
        due(24, "met(), never looked for", x.met(), 0);
        x.find(2, 2, 10);
        due(24, "met() of the first alone", x.met(), 1);
        x.find(1, 2, 1);
        due(24, "met()", x.met(), 2);
        // From x 0 0: CELL 1 or 2 becomes not x, or not 0: four more ahead of the second one's turn.
        x.find(1, 3, 1);
        due(24, "met() counts those whose turn did not come", x.met(), 5);
        x.find(1, 7, 1);
        due(24, "met() behind BAD", x.met(), 5);
        x.find(1, 1, 0);
        due(24, "met() behind NONE", x.met(), 1);
        x.mesh(1, 1, 1);
        due(24, "met() behind mesh", x.met(), 1);
    }

    private static void count() {
        MeshSums x = meshOf(5, 13, 7);
        x.stick(4, 12, 0);
        x.stick(0, 0, 7);
        x.stick(0, 1, 7);
        x.stick(0, 1, NONE);
        x.table(4, 2, 3);
        int[] counts = {5, 13, 7, 2, 4, 2, 3, 0, 0};
        for (int what = 0; what < counts.length; what++) {
            due(25, "count(" + what + ")", x.count(what), counts[what]);
        }
        x.lay();
        due(25, "count(7)", x.count(7), 1);
        due(25, "count(8)", x.count(8), 0);
        x.seal();
        due(25, "count(8)", x.count(8), 1);
        due(25, "count(-1)", x.count(-1), BAD);
        due(25, "count(9)", x.count(9), BAD);
        due(25, "count(MOST)", x.count(MOST), BAD);
    }

    private static void digest() {
        MeshSums x = new MeshSums();
        due(26, "digest() of a new object", x.digest(), hash(1, 1, 1, 0, 0, 0, 0, 0, 0, 0, -1, 0, 0));
        x.mesh(2, 4, 3);
        x.table(2, 2, 1);
        x.number(0, 0, 3);
        x.number(0, 1, -2);
        x.number(1, 1, 1);
        x.stick(0, 2, 3);
        x.map();
        x.write(0, 1, 2);
        x.fade(1);
        x.seal();
        x.input(0, 200);
        x.input(1, 9);
        x.find(2, 5, 8);
        due(26, "digest()", x.digest(), hash(2, 4, 3, 1, 2, 2, 1, 0, 1,
                0, -1, 1, 2, -1, 1, 3, 3, 0, 0, -1, 1, 0, -1, 1, 0, -1, 1, 0, -1, 1, 0, -1, 1,
                200, 9, 1, 3, -2, 0, 0, 1, 0, 0, 2, 1, 1, 3, 2, 3, 4));
        x.bits(3);
        due(26, "digest() changes nothing", x.digest(), x.digest());
    }

    public static void main(String[] args) {
        newObject();
        mesh();
        write();
        stick();
        cell();
        input();
        bits();
        sum();
        table();
        number();
        lay();
        product();
        due();
        enough();
        map();
        mapped();
        seal();
        look();
        fade();
        pulse();
        find();
        actAt();
        where();
        met();
        count();
        digest();
        System.out.println(wrong == 0 ? "all " + asked + " answers are as due" : wrong + " answers are not as due");
        if (wrong != 0) {
            System.exit(1);
        }
    }
}
