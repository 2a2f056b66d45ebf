import java.util.ArrayList;
import java.util.Arrays;
import java.util.List;

/**
 * Each sentence of the document that names a boundary case, with a test of its own: the least and the
 * greatest that is as told, the first below and the first above it, nothing there yet, no more room,
 * numbers that wrap around, each refusal, which of two comes first, and that it changes nothing.
 */
public final class EdgeTest {
    private static final int NONE = -1, BAD = -2, NO = -3, SPENT = -5, SEVERAL = 100;
    private static final int BAD_NUMBER = -2000000000;
    private static final long BAD_PRODUCT = -2000000000000000000L;
    private static final int LEAST = Integer.MIN_VALUE, MOST = Integer.MAX_VALUE;
    private static final int GREATEST_NUMBER = 16 * 16 * 16 * 16 * 16 * 16 - 1;

    private static String sentence = "";
    private static int wrong = 0;
    private static int asked = 0;

    private interface Maker {
        MeshSums make();
    }

    private interface Call {
        long on(MeshSums x);
    }

    private interface CellCall {
        long on(MeshSums x, int r, int c);
    }

    private static void test(String words, Runnable body) {
        sentence = words;
        body.run();
    }

    private static void due(String call, long got, long want) {
        asked++;
        if (got != want) {
            wrong++;
            System.out.println(sentence + ": " + call + " answered " + got + ", due is " + want);
        }
    }

    private static MeshSums meshOf(int r, int c, int t) {
        MeshSums x = new MeshSums();
        due("mesh(" + r + ", " + c + ", " + t + ")", x.mesh(r, c, t), 1);
        return x;
    }

    private static MeshSums tableOf(int r, int c, int t, int n, int m, int digits) {
        MeshSums x = meshOf(r, c, t);
        due("table(" + n + ", " + m + ", " + digits + ")", x.table(n, m, digits), 1);
        return x;
    }

    /** 3 by 9 with t 5: CELLS, inputs, CONVERTERS and ACTS are there, but no table, and not SEALED. */
    private static MeshSums bare() {
        MeshSums x = new MeshSums();
        x.mesh(3, 9, 5);
        x.write(0, 0, 5);
        x.write(2, 8, 3);
        x.stick(1, 4, 2);
        x.fade(4);
        x.input(0, 255);
        x.input(2, 9);
        x.bits(6);
        x.find(1, 2, 1);
        return x;
    }

    /** 4 by 13 with t 3: a table of 3 by 2 with 3 DIGITS, MAPPED anew and LAID; SEALED, written since. */
    private static MeshSums full() {
        MeshSums x = new MeshSums();
        x.mesh(4, 13, 3);
        x.table(3, 2, 3);
        x.number(0, 0, 63);
        x.number(0, 1, -21);
        x.number(1, 0, -1);
        x.number(2, 1, 40);
        x.stick(0, 0, 0);
        x.stick(1, 5, 2);
        x.stick(3, 12, 1);
        x.map();
        x.lay();
        x.input(0, 200);
        x.input(1, 77);
        x.input(2, 3);
        x.input(3, 255);
        x.bits(2);
        x.seal();
        x.write(2, 11, 3);
        x.fade(5);
        x.find(2, 5, 8);
        return x;
    }

    /** All that answers tell of an object; it is of no further use then. */
    private static List<Long> allSeen(MeshSums x) {
        List<Long> all = new ArrayList<>(List.of(x.digest(), (long) x.where(), (long) x.met(), (long) x.look(), (long) x.enough()));
        for (int c = 0; c < 24; c++) {
            all.add((long) x.sum(c));
        }
        for (int k = 0; k < 12; k++) {
            all.addAll(List.of(x.product(k), x.due(k)));
        }
        all.add((long) x.bits(16));
        for (int r = 0; r < 8; r++) {
            all.addAll(List.of((long) x.mapped(r), (long) x.input(r, 31 * r + 1), (long) x.look()));
        }
        all.addAll(List.of(x.product(0), (long) x.sum(0), (long) x.lay(), x.digest()));
        return all;
    }

    /** Of twins one is asked what is to be refused: behind it both look alike in all that can be seen. */
    private static void refused(Maker maker, String call, Call refusal, long want) {
        MeshSums x = maker.make();
        due(call, refusal.on(x), want);
        due("1 if nothing has changed behind " + call, allSeen(x).equals(allSeen(maker.make())) ? 1 : 0, 1);
    }

    private static void refusedByAll(String call, Call refusal, long want) {
        refused(MeshSums::new, call + " (new)", refusal, want);
        refused(EdgeTest::bare, call + " (bare)", refusal, want);
        refused(EdgeTest::full, call + " (full)", refusal, want);
    }

    /** ROWS and COLUMNS just outside, and far outside, where a product of them would wrap around. */
    private static void refusedOutside(Maker maker, int rows, int columns, String name, CellCall call) {
        int[] badRows = {-1, rows, LEAST, MOST, 178956971, 1 << 30};
        int[] badColumns = {-1, columns, LEAST, MOST, 24, 1 << 30};
        for (int r : badRows) {
            refused(maker, name + " of ROW " + r, x -> call.on(x, r, 0), BAD);
            refused(maker, name + " of ROW " + r + ", COLUMN " + (columns - 1), x -> call.on(x, r, columns - 1), BAD);
        }
        for (int c : badColumns) {
            refused(maker, name + " of COLUMN " + c, x -> call.on(x, 0, c), BAD);
            refused(maker, name + " of ROW " + (rows - 1) + ", COLUMN " + c, x -> call.on(x, rows - 1, c), BAD);
        }
        refused(maker, name + " outside in both", x -> call.on(x, rows, columns), BAD);
    }

    private static void refusedOutsideAll(String name, CellCall call) {
        refusedOutside(MeshSums::new, 1, 1, name, call);
        refusedOutside(EdgeTest::bare, 3, 9, name, call);
        refusedOutside(EdgeTest::full, 4, 13, name, call);
        refusedOutside(() -> meshOf(8, 24, 15), 8, 24, name, call);
    }

    private static long hash(long start, long... values) {
        long h = start;
        for (long v : values) {
            h = 31 * h + v;
        }
        return h;
    }

    private static int power(int factor, int times) {
        int result = 1;
        for (int i = 0; i < times; i++) {
            result *= factor;
        }
        return result;
    }

    // ---- Promise 1

    private static void newObject() {
        test("1: a MESH of 1 by 1, t 1", () -> {
            MeshSums x = new MeshSums();
            due("count(0)", x.count(0), 1);
            due("count(1)", x.count(1), 1);
            due("count(2)", x.count(2), 1);
            due("cell(0, 0, 0)", x.cell(0, 0, 0), 0);
            due("cell(1, 0, 0)", x.cell(1, 0, 0), BAD);
            due("cell(0, 1, 0)", x.cell(0, 1, 0), BAD);
            due("write(0, 0, 2)", x.write(0, 0, 2), BAD);
            due("write(0, 0, 1)", x.write(0, 0, 1), 1);
        });
        test("1: nothing STICKS, nothing is told to it yet", () -> {
            MeshSums x = new MeshSums();
            due("cell(0, 0, 1)", x.cell(0, 0, 1), NONE);
            due("cell(0, 0, 2)", x.cell(0, 0, 2), 0);
            due("count(3)", x.count(3), 0);
            due("input(0, 5)", x.input(0, 5), 0);
            due("bits(1)", x.bits(1), 16);
        });
        test("1: nothing LAID", () -> {
            MeshSums x = new MeshSums();
            due("count(4)", x.count(4), 0);
            due("count(5)", x.count(5), 0);
            due("count(6)", x.count(6), 0);
            due("count(7)", x.count(7), 0);
            due("number(0, 0, 0)", x.number(0, 0, 0), BAD_NUMBER);
            due("lay()", x.lay(), NO);
            due("product(0)", x.product(0), BAD_PRODUCT);
            due("due(0)", x.due(0), BAD_PRODUCT);
            due("enough()", x.enough(), NO);
            due("map()", x.map(), NO);
            due("mapped(0)", x.mapped(0), NO);
        });
        test("1: not SEALED", () -> {
            MeshSums x = new MeshSums();
            due("count(8)", x.count(8), 0);
            due("look()", x.look(), NO);
        });
        test("1: nothing FOUND", () -> {
            MeshSums x = new MeshSums();
            due("where()", x.where(), NONE);
            due("met()", x.met(), 0);
            due("actAt(0, 0)", x.actAt(0, 0), NONE);
        });
        test("1: a table needs two COLUMNS at least", () -> refused(MeshSums::new, "table(1, 1, 1)", x -> x.table(1, 1, 1), NO));
    }

    // ---- Promise 2

    private static void mesh() {
        test("2, Terms: r 1 .. 8", () -> {
            for (int r = 1; r <= 8; r++) {
                MeshSums x = meshOf(r, 2, 3);
                due("count(0)", x.count(0), r);
                due("input(r - 1, 1)", x.input(r - 1, 1), 0);
                due("input(r, 1)", x.input(r, 1), BAD);
            }
            for (int r : new int[] {0, 9, -1, LEAST, MOST}) {
                refusedByAll("mesh(" + r + ", 1, 1)", x -> x.mesh(r, 1, 1), BAD);
                refusedByAll("mesh(" + r + ", 24, 15)", x -> x.mesh(r, 24, 15), BAD);
            }
        });
        test("2, Terms: c 1 .. 24", () -> {
            for (int c = 1; c <= 24; c++) {
                MeshSums x = meshOf(2, c, 3);
                due("count(1)", x.count(1), c);
                due("sum(c - 1)", x.sum(c - 1), 0);
                due("sum(c)", x.sum(c), BAD);
            }
            for (int c : new int[] {0, 25, -1, LEAST, MOST}) {
                refusedByAll("mesh(1, " + c + ", 1)", x -> x.mesh(1, c, 1), BAD);
                refusedByAll("mesh(8, " + c + ", 15)", x -> x.mesh(8, c, 15), BAD);
            }
        });
        test("2, Terms: t 1 .. 15", () -> {
            for (int t = 1; t <= 15; t++) {
                MeshSums x = meshOf(2, 2, t);
                due("count(2)", x.count(2), t);
                due("write(1, 1, t)", x.write(1, 1, t), 1);
                due("write(1, 1, t + 1)", x.write(1, 1, t + 1), BAD);
            }
            for (int t : new int[] {0, 16, -1, LEAST, MOST}) {
                refusedByAll("mesh(1, 1, " + t + ")", x -> x.mesh(1, 1, t), BAD);
                refusedByAll("mesh(8, 24, " + t + ")", x -> x.mesh(8, 24, t), BAD);
            }
        });
        test("2: all as at first", () -> {
            for (int[] size : new int[][] {{4, 13, 3}, {1, 1, 1}, {8, 24, 15}, {5, 12, 2}}) {
                MeshSums x = full();
                due("mesh", x.mesh(size[0], size[1], size[2]), 1);
                MeshSums y = new MeshSums();
                y.mesh(size[0], size[1], size[2]);
                y.find(2, 5, 8);
                due("1 if like a new one with what was FOUND", allSeen(x).equals(allSeen(y)) ? 1 : 0, 1);
            }
        });
        test("2: CONVERTERS, too", () -> {
            MeshSums x = full();
            due("mesh(4, 13, 3)", x.mesh(4, 13, 3), 1);
            due("bits(2)", x.bits(2), 16);
        });
        test("2: a larger MESH has nothing of one before a smaller one", () -> {
            MeshSums x = meshOf(8, 24, 15);
            x.write(7, 23, 15);
            x.stick(7, 22, 4);
            x.fade(1);
            x.input(7, 200);
            due("mesh(1, 1, 1)", x.mesh(1, 1, 1), 1);
            due("count(3)", x.count(3), 0);
            due("mesh(8, 24, 15)", x.mesh(8, 24, 15), 1);
            due("cell(7, 23, 0)", x.cell(7, 23, 0), 0);
            due("cell(7, 23, 2)", x.cell(7, 23, 2), 0);
            due("cell(7, 22, 0)", x.cell(7, 22, 0), 0);
            due("cell(7, 22, 1)", x.cell(7, 22, 1), NONE);
            due("cell(0, 0, 2)", x.cell(0, 0, 2), 0);
            due("input(7, 0)", x.input(7, 0), 0);
        });
        test("2: but what was FOUND", () -> {
            MeshSums x = full();
            due("mesh(1, 1, 1)", x.mesh(1, 1, 1), 1);
            due("where()", x.where(), 4);
            due("actAt(2, 0)", x.actAt(2, 0), 2);
            due("actAt(2, 1)", x.actAt(2, 1), 3);
            due("actAt(2, 2)", x.actAt(2, 2), 4);
            due("actAt(3, 0)", x.actAt(3, 0), NONE);
        });
    }

    // ---- Promises 3 to 5

    private static void write() {
        test("3: the first and the last CELL, the least and the greatest LEVEL", () -> {
            for (int[] size : new int[][] {{1, 1, 1}, {3, 9, 5}, {8, 24, 15}}) {
                MeshSums x = meshOf(size[0], size[1], size[2]);
                for (int r : new int[] {0, size[0] - 1}) {
                    for (int c : new int[] {0, size[1] - 1}) {
                        due("write of t", x.write(r, c, size[2]), 1);
                        due("its LEVEL", x.cell(r, c, 0), size[2]);
                        due("write of 0", x.write(r, c, 0), 1);
                        due("its LEVEL", x.cell(r, c, 0), 0);
                    }
                }
            }
        });
        test("3: BAD, a ROW or a COLUMN outside", () -> refusedOutsideAll("write", (x, r, c) -> x.write(r, c, 1)));
        test("3: BAD, a LEVEL not 0 .. t", () -> {
            for (int level : new int[] {-1, -2, LEAST, MOST, 16}) {
                refusedByAll("write(0, 0, " + level + ")", x -> x.write(0, 0, level), BAD);
            }
            refused(MeshSums::new, "write(0, 0, 2)", x -> x.write(0, 0, 2), BAD);
            refused(EdgeTest::bare, "write(0, 0, 6)", x -> x.write(0, 0, 6), BAD);
            refused(EdgeTest::full, "write(0, 1, 4)", x -> x.write(0, 1, 4), BAD);
        });
        test("3: NO, it STICKS at another one", () -> {
            for (int level : new int[] {0, 1, 3, 4, 5}) {
                refused(EdgeTest::bare, "write(1, 4, " + level + ")", x -> x.write(1, 4, level), NO);
            }
            for (int level : new int[] {1, 2, 3}) {
                refused(EdgeTest::full, "write(0, 0, " + level + ") at one that STICKS at 0", x -> x.write(0, 0, level), NO);
            }
        });
        test("3: at the LEVEL at which it STICKS it is written", () -> {
            MeshSums x = meshOf(1, 2, 5);
            x.fade(7);
            x.stick(0, 0, 0);
            x.stick(0, 1, 5);
            due("write(0, 0, 0)", x.write(0, 0, 0), 1);
            due("write(0, 1, 5)", x.write(0, 1, 5), 1);
            due("cell(0, 0, 2)", x.cell(0, 0, 2), 0);
            due("cell(0, 1, 2)", x.cell(0, 1, 2), 0);
            due("cell(0, 1, 1)", x.cell(0, 1, 1), 5);
        });
        test("3: BAD ahead of NO", () -> {
            refused(EdgeTest::bare, "write(1, 4, 6)", x -> x.write(1, 4, 6), BAD);
            refused(EdgeTest::bare, "write(1, 4, -1)", x -> x.write(1, 4, -1), BAD);
            refused(EdgeTest::full, "write(0, 0, 4)", x -> x.write(0, 0, 4), BAD);
        });
        test("3: its age is 0 then, where it is the same LEVEL, too", () -> {
            MeshSums x = meshOf(1, 2, 5);
            x.fade(9);
            due("cell(0, 0, 2)", x.cell(0, 0, 2), 9);
            due("write(0, 0, 0)", x.write(0, 0, 0), 1);
            due("cell(0, 0, 2)", x.cell(0, 0, 2), 0);
            due("cell(0, 1, 2) of another", x.cell(0, 1, 2), 9);
        });
    }

    private static void stick() {
        test("4: the first and the last CELL, the least and the greatest LEVEL", () -> {
            for (int[] size : new int[][] {{1, 1, 1}, {3, 9, 5}, {8, 24, 15}}) {
                MeshSums x = meshOf(size[0], size[1], size[2]);
                for (int r : new int[] {0, size[0] - 1}) {
                    for (int c : new int[] {0, size[1] - 1}) {
                        due("stick at 0", x.stick(r, c, 0), 1);
                        due("where it STICKS", x.cell(r, c, 1), 0);
                        due("stick at t", x.stick(r, c, size[2]), 1);
                        due("where it STICKS", x.cell(r, c, 1), size[2]);
                        due("its LEVEL", x.cell(r, c, 0), size[2]);
                        due("count(3)", x.count(3), 1);
                        due("stick no more", x.stick(r, c, NONE), 1);
                        due("where it STICKS", x.cell(r, c, 1), NONE);
                        due("count(3)", x.count(3), 0);
                    }
                }
            }
        });
        test("4: BAD, a ROW or a COLUMN outside", () -> {
            refusedOutsideAll("stick", (x, r, c) -> x.stick(r, c, 1));
            refusedOutsideAll("stick no more", (x, r, c) -> x.stick(r, c, NONE));
        });
        test("4: BAD, neither NONE nor a LEVEL 0 .. t", () -> {
            for (int level : new int[] {-2, -3, LEAST, MOST, 16}) {
                refusedByAll("stick(0, 0, " + level + ")", x -> x.stick(0, 0, level), BAD);
            }
            refused(MeshSums::new, "stick(0, 0, 2)", x -> x.stick(0, 0, 2), BAD);
            refused(EdgeTest::bare, "stick(0, 0, 6)", x -> x.stick(0, 0, 6), BAD);
            refused(EdgeTest::full, "stick(0, 0, 4)", x -> x.stick(0, 0, 4), BAD);
        });
        test("4: NONE, no more: it keeps that which it has", () -> {
            MeshSums x = meshOf(2, 2, 5);
            x.write(1, 0, 3);
            x.stick(1, 0, 5);
            due("stick(1, 0, -1)", x.stick(1, 0, NONE), 1);
            due("cell(1, 0, 0)", x.cell(1, 0, 0), 5);
            due("write(1, 0, 2)", x.write(1, 0, 2), 1);
        });
        test("4: NONE of one that does not STICK", () -> {
            MeshSums x = meshOf(2, 2, 5);
            x.write(1, 0, 3);
            long before = x.digest();
            due("stick(1, 0, -1)", x.stick(1, 0, NONE), 1);
            due("digest()", x.digest(), before);
        });
        test("4: its age stays", () -> {
            MeshSums x = meshOf(1, 1, 5);
            x.write(0, 0, 3);
            x.fade(7);
            for (int level : new int[] {5, 0, 3, NONE}) {
                due("stick(0, 0, " + level + ")", x.stick(0, 0, level), 1);
                due("cell(0, 0, 2)", x.cell(0, 0, 2), 7);
            }
        });
        test("4, Terms: it has that LEVEL, whatever is written", () -> {
            MeshSums x = tableOf(1, 2, 5, 1, 1, 1);
            x.stick(0, 0, 2);
            x.number(0, 0, 5);
            due("write(0, 0, 5)", x.write(0, 0, 5), NO);
            due("lay()", x.lay(), 1);
            due("cell(0, 0, 0)", x.cell(0, 0, 0), 2);
            due("pulse(0, 0, 5)", x.pulse(0, 0, 5), NO);
            due("fade(100)", x.fade(100), 0);
            due("cell(0, 0, 0)", x.cell(0, 0, 0), 2);
        });
        test("4: all CELLS STICK", () -> {
            MeshSums x = meshOf(8, 24, 15);
            for (int at = 0; at < 192; at++) {
                due("stick", x.stick(at / 24, at % 24, at % 16), 1);
            }
            due("count(3)", x.count(3), 192);
            due("fade(100)", x.fade(100), 0);
            due("cell(7, 23, 0)", x.cell(7, 23, 0), 15);
        });
    }

    private static void cell() {
        test("5: BAD, a ROW or a COLUMN outside", () -> {
            for (int what = 0; what <= 2; what++) {
                int asking = what;
                refusedOutsideAll("cell(.., " + what + ")", (x, r, c) -> x.cell(r, c, asking));
            }
        });
        test("5: BAD, neither 0 nor 1 nor 2", () -> {
            for (int what : new int[] {-1, 3, LEAST, MOST}) {
                refusedByAll("cell(0, 0, " + what + ")", x -> x.cell(0, 0, what), BAD);
            }
        });
        test("5: the last COLUMN of a ROW and the first of the next are two CELLS", () -> {
            MeshSums x = meshOf(2, 24, 15);
            x.write(0, 23, 7);
            x.write(1, 0, 9);
            due("cell(0, 23, 0)", x.cell(0, 23, 0), 7);
            due("cell(1, 0, 0)", x.cell(1, 0, 0), 9);
            due("cell(0, 24, 0)", x.cell(0, 24, 0), BAD);
            due("cell(1, -1, 0)", x.cell(1, -1, 0), BAD);
        });
        test("5: 1 is NONE where it does not STICK, 0 where it STICKS at 0", () -> {
            MeshSums x = meshOf(1, 2, 1);
            x.stick(0, 1, 0);
            due("cell(0, 0, 1)", x.cell(0, 0, 1), NONE);
            due("cell(0, 1, 1)", x.cell(0, 1, 1), 0);
        });
    }

    // ---- Promises 6 to 8

    private static void inputAndBits() {
        test("6, Terms: inputs 0 .. 255, 0 at first, what it was", () -> {
            MeshSums x = meshOf(8, 1, 1);
            for (int r : new int[] {0, 7}) {
                due("input(r, 255)", x.input(r, 255), 0);
                due("input(r, 0)", x.input(r, 0), 255);
                due("input(r, 254)", x.input(r, 254), 0);
                due("input(r, 1)", x.input(r, 1), 254);
                due("input(r, 1)", x.input(r, 1), 1);
            }
            due("input(3, 9) of another", x.input(3, 9), 0);
            for (int v : new int[] {-1, 256, LEAST, MOST}) {
                refusedByAll("input(0, " + v + ")", y -> y.input(0, v), BAD);
            }
        });
        test("6: BAD, a ROW outside", () -> {
            for (int r : new int[] {-1, 8, LEAST, MOST}) {
                refusedByAll("input(" + r + ", 5)", x -> x.input(r, 5), BAD);
            }
            refused(MeshSums::new, "input(1, 5)", x -> x.input(1, 5), BAD);
            refused(EdgeTest::bare, "input(3, 5)", x -> x.input(3, 5), BAD);
            refused(EdgeTest::full, "input(4, 5)", x -> x.input(4, 5), BAD);
            refused(() -> meshOf(8, 24, 15), "input(8, 5)", x -> x.input(8, 5), BAD);
        });
        test("7, Terms: 1 .. 16 bits, 16 at first, what they were", () -> {
            MeshSums x = new MeshSums();
            int was = 16;
            for (int b = 1; b <= 16; b++) {
                due("bits(" + b + ")", x.bits(b), was);
                was = b;
            }
            due("bits(16)", x.bits(16), 16);
            for (int b : new int[] {0, 17, -1, 32, 33, 48, LEAST, MOST}) {
                refusedByAll("bits(" + b + ")", y -> y.bits(b), BAD);
            }
        });
    }

    /** Row 0 has an input of 1 .. 255 and COLUMN 0, and so on, so that the sum is the one wanted. */
    private static MeshSums withSum(int wanted) {
        MeshSums x = meshOf(8, 1, 15);
        int rest = wanted;
        for (int r = 0; r < 6; r++) {
            int most = Math.min(15, rest / 255);
            x.input(r, 255);
            x.write(r, 0, most);
            rest -= 255 * most;
        }
        x.input(6, rest);
        x.write(6, 0, 1);
        return x;
    }

    private static void sum() {
        test("8, Terms: what is above 2 to the bits less 1 is told as that", () -> {
            for (int b = 1; b <= 14; b++) {
                int end = (1 << b) - 1;
                for (int wanted : new int[] {end - 1, end, end + 1, end + 2}) {
                    MeshSums x = withSum(wanted);
                    due("sum(0) of " + wanted + " by 16 bits", x.sum(0), wanted);
                    x.bits(b);
                    due("sum(0) of " + wanted + " by " + b + " bits", x.sum(0), Math.min(wanted, end));
                }
            }
        });
        test("8, Terms: the greatest SUM", () -> {
            MeshSums x = meshOf(8, 24, 15);
            for (int r = 0; r < 8; r++) {
                x.input(r, 255);
                x.write(r, 23, 15);
            }
            due("sum(23)", x.sum(23), 30600);
            x.bits(15);
            due("sum(23) by 15 bits", x.sum(23), 30600);
            x.bits(14);
            due("sum(23) by 14 bits", x.sum(23), 16383);
            due("sum(22)", x.sum(22), 0);
            x.bits(1);
            due("sum(23) by 1 bit", x.sum(23), 1);
            due("sum(22) by 1 bit", x.sum(22), 0);
        });
        test("8: an input of 0, a LEVEL of 0", () -> {
            MeshSums x = meshOf(2, 2, 1);
            x.write(0, 0, 1);
            x.input(1, 255);
            due("sum(0)", x.sum(0), 0);
            x.input(0, 1);
            due("sum(0)", x.sum(0), 1);
        });
        test("8: BAD, a COLUMN outside", () -> {
            for (int c : new int[] {-1, 24, 25, LEAST, MOST}) {
                refusedByAll("sum(" + c + ")", x -> x.sum(c), BAD);
                refused(() -> meshOf(8, 24, 15), "sum(" + c + ")", x -> x.sum(c), BAD);
            }
            refused(MeshSums::new, "sum(1)", x -> x.sum(1), BAD);
            refused(EdgeTest::bare, "sum(9)", x -> x.sum(9), BAD);
            refused(EdgeTest::full, "sum(13)", x -> x.sum(13), BAD);
        });
    }

    // ---- Promises 9 and 10

    private static void table() {
        test("9: n 1 .. r", () -> {
            for (int r = 1; r <= 8; r++) {
                int rows = r;
                MeshSums x = tableOf(r, 2, 1, r, 1, 1);
                due("count(4)", x.count(4), r);
                due("mapped(r - 1)", x.mapped(r - 1), r - 1);
                refused(() -> meshOf(rows, 2, 1), "table(r + 1, 1, 1)", y -> y.table(rows + 1, 1, 1), BAD);
                due("table(1, 1, 1)", x.table(1, 1, 1), 1);
                due("count(4)", x.count(4), 1);
            }
            for (int n : new int[] {0, -1, 9, LEAST, MOST}) {
                refusedByAll("table(" + n + ", 1, 1)", x -> x.table(n, 1, 1), BAD);
            }
            refused(EdgeTest::full, "table(5, 2, 3)", x -> x.table(5, 2, 3), BAD);
        });
        test("9: m 1 .. 12", () -> {
            for (int m = 1; m <= 12; m++) {
                MeshSums x = tableOf(2, 24, 1, 2, m, 1);
                due("count(5)", x.count(5), m);
                due("number(1, m - 1, 1)", x.number(1, m - 1, 1), 0);
                due("number(1, m, 1)", x.number(1, m, 1), BAD_NUMBER);
            }
            for (int m : new int[] {0, 13, -1, LEAST, MOST, 1 << 29, 1 << 30, 1 << 31}) {
                refusedByAll("table(1, " + m + ", 1)", x -> x.table(1, m, 1), BAD);
                refused(() -> meshOf(8, 24, 15), "table(1, " + m + ", 4)", x -> x.table(1, m, 4), BAD);
            }
        });
        test("9, Terms: D 1 .. 6", () -> {
            for (int d = 1; d <= 6; d++) {
                MeshSums x = tableOf(2, 12, 1, 2, 1, d);
                due("count(6)", x.count(6), d);
            }
            for (int d : new int[] {0, 7, -1, LEAST, MOST, 1 << 30, 1 << 31}) {
                refusedByAll("table(1, 1, " + d + ")", x -> x.table(1, 1, d), BAD);
                refused(() -> meshOf(8, 24, 15), "table(1, 2, " + d + ")", x -> x.table(1, 2, d), BAD);
            }
        });
        test("9: NO, 2 D m is above c", () -> {
            for (int d = 1; d <= 6; d++) {
                for (int m = 1; m <= 12; m++) {
                    int needed = 2 * d * m;
                    int width = m;
                    int digits = d;
                    if (needed <= 24) {
                        due("table of just as many COLUMNS", meshOf(2, needed, 1).table(2, m, d), 1);
                        refused(() -> meshOf(2, needed - 1, 1), "table of one COLUMN more", x -> x.table(2, width, digits), NO);
                    } else {
                        refused(() -> meshOf(2, 24, 1), "table of more than 24", x -> x.table(2, width, digits), NO);
                    }
                }
            }
            refused(EdgeTest::full, "table(3, 7, 1)", x -> x.table(3, 7, 1), NO);
            refused(EdgeTest::full, "table(3, 2, 4)", x -> x.table(3, 2, 4), NO);
            refused(EdgeTest::bare, "table(3, 5, 1)", x -> x.table(3, 5, 1), NO);
            refused(MeshSums::new, "table(1, 12, 6)", x -> x.table(1, 12, 6), NO);
        });
        test("9: BAD ahead of NO", () -> {
            refusedByAll("table(9, 12, 6)", x -> x.table(9, 12, 6), BAD);
            refusedByAll("table(0, 12, 6)", x -> x.table(0, 12, 6), BAD);
            refusedByAll("table(1, 13, 6)", x -> x.table(1, 13, 6), BAD);
            refusedByAll("table(1, 12, 7)", x -> x.table(1, 12, 7), BAD);
        });
        test("9: all 0, MAPPED i to i, nothing is LAID", () -> {
            MeshSums x = full();
            // Row 0 is dear on ROWS 0 (3) and 1 (2), rows 1 and 2 on ROW 1 alone.
            due("mapped(0) ahead", x.mapped(0), 2);
            due("mapped(1) ahead", x.mapped(1), 0);
            due("mapped(2) ahead", x.mapped(2), 3);
            due("count(7) ahead", x.count(7), 1);
            due("table(3, 2, 3)", x.table(3, 2, 3), 1);
            due("count(7)", x.count(7), 0);
            due("product(0)", x.product(0), BAD_PRODUCT);
            for (int i = 0; i < 3; i++) {
                due("mapped(" + i + ")", x.mapped(i), i);
                due("number(" + i + ", 0, 0)", x.number(i, 0, 0), 0);
                due("number(" + i + ", 1, 0)", x.number(i, 1, 0), 0);
            }
        });
        test("9: CELLS, inputs, CONVERTERS, CHECKS and what was FOUND stay", () -> {
            MeshSums x = full();
            MeshSums y = full();
            x.table(1, 1, 1);
            for (int r = 0; r < 4; r++) {
                for (int c = 0; c < 13; c++) {
                    due("LEVEL", x.cell(r, c, 0), y.cell(r, c, 0));
                    due("age", x.cell(r, c, 2), y.cell(r, c, 2));
                }
            }
            due("count(3)", x.count(3), 3);
            due("look()", x.look(), y.look());
            due("sum(1)", x.sum(1), y.sum(1));
            due("input(3, 0)", x.input(3, 0), 255);
            due("bits(16)", x.bits(16), 2);
            due("where()", x.where(), 4);
        });
    }

    private static void number() {
        test("10: one that D DIGITS do not hold", () -> {
            for (int t = 1; t <= 15; t++) {
                for (int d = 1; d <= 6; d++) {
                    int most = power(t + 1, d) - 1;
                    MeshSums x = tableOf(1, 12, t, 1, 1, d);
                    due("the greatest", x.number(0, 0, most), 0);
                    due("one above", x.number(0, 0, most + 1), BAD_NUMBER);
                    due("the least", x.number(0, 0, -most), most);
                    due("one below", x.number(0, 0, -most - 1), BAD_NUMBER);
                    due("0", x.number(0, 0, 0), -most);
                }
            }
            for (int v : new int[] {64, -64, LEAST, LEAST + 1, MOST, BAD_NUMBER}) {
                refused(EdgeTest::full, "number(0, 0, " + v + ")", x -> x.number(0, 0, v), BAD_NUMBER);
            }
        });
        test("10: BAD, a row of no table row", () -> {
            for (int i : new int[] {-1, 3, 4, 8, LEAST, MOST, 357913942}) {
                refused(EdgeTest::full, "number(" + i + ", 0, 1)", x -> x.number(i, 0, 1), BAD_NUMBER);
            }
        });
        test("10: BAD, a number of no COLUMNS", () -> {
            for (int k : new int[] {-1, 2, 11, 12, LEAST, MOST}) {
                refused(EdgeTest::full, "number(0, " + k + ", 1)", x -> x.number(0, k, 1), BAD_NUMBER);
                refused(EdgeTest::full, "number(2, " + k + ", 1)", x -> x.number(2, k, 1), BAD_NUMBER);
            }
        });
        test("10: no table", () -> {
            for (int v : new int[] {0, 1, -1, 16777216}) {
                refused(MeshSums::new, "number(0, 0, " + v + ")", x -> x.number(0, 0, v), BAD_NUMBER);
                refused(EdgeTest::bare, "number(0, 0, " + v + ")", x -> x.number(0, 0, v), BAD_NUMBER);
            }
            MeshSums x = full();
            x.mesh(4, 13, 3);
            due("number(0, 0, 0) behind mesh()", x.number(0, 0, 0), BAD_NUMBER);
        });
        test("10: the first and the last number of the widest table, what it was", () -> {
            MeshSums x = tableOf(8, 24, 15, 8, 12, 1);
            due("number(0, 0, 15)", x.number(0, 0, 15), 0);
            due("number(7, 11, -15)", x.number(7, 11, -15), 0);
            due("number(0, 11, 4)", x.number(0, 11, 4), 0);
            due("number(1, 0, 5)", x.number(1, 0, 5), 0);
            due("number(0, 0, 0)", x.number(0, 0, 0), 15);
            due("number(7, 11, 0)", x.number(7, 11, 0), -15);
            due("number(0, 11, 0)", x.number(0, 11, 0), 4);
            due("number(1, 0, 0)", x.number(1, 0, 0), 5);
        });
        test("10: what is LAID stays", () -> {
            MeshSums x = tableOf(1, 2, 9, 1, 1, 1);
            x.input(0, 1);
            x.number(0, 0, 4);
            x.lay();
            due("number(0, 0, 7)", x.number(0, 0, 7), 4);
            due("count(7)", x.count(7), 1);
            due("cell(0, 0, 0)", x.cell(0, 0, 0), 4);
            due("product(0)", x.product(0), 4);
            due("due(0)", x.due(0), 7);
            x.table(1, 1, 1);
            x.number(0, 0, 7);
            due("nothing LAID stays, too", x.count(7), 0);
        });
    }

    // ---- Promise 11

    private static void lay() {
        test("11: NO, there is no table", () -> {
            refused(MeshSums::new, "lay()", MeshSums::lay, NO);
            refused(EdgeTest::bare, "lay()", MeshSums::lay, NO);
            MeshSums x = full();
            x.mesh(4, 13, 3);
            due("lay() behind mesh()", x.lay(), NO);
        });
        test("11, Terms: DIGITS by B, the lowest first, of the greatest and the least", () -> {
            for (int t = 1; t <= 15; t++) {
                for (int d = 1; d <= 6; d++) {
                    int most = power(t + 1, d) - 1;
                    MeshSums x = tableOf(2, 24, t, 2, 2, d);
                    x.number(0, 0, most);
                    x.number(0, 1, -most);
                    x.number(1, 0, power(t + 1, d - 1));
                    x.number(1, 1, -1);
                    due("lay()", x.lay(), 0);
                    for (int c = 0; c < 4 * d; c++) {
                        boolean first = c < d;
                        boolean last = c >= 3 * d;
                        due("COLUMN " + c + " of B to the D-th less 1 and less than 0", x.cell(0, c, 0), first || last ? t : 0);
                        due("COLUMN " + c + " of one DIGIT alone", x.cell(1, c, 0), c == d - 1 || c == 3 * d ? 1 : 0);
                    }
                }
            }
        });
        test("11, Terms: those of 0 in the D COLUMNS behind; 0 itself is not below 0", () -> {
            MeshSums x = tableOf(1, 4, 3, 1, 1, 2);
            for (int c = 0; c < 4; c++) {
                x.write(0, c, 3);
            }
            due("lay()", x.lay(), 0);
            for (int c = 0; c < 4; c++) {
                due("cell(0, " + c + ", 0)", x.cell(0, c, 0), 0);
            }
            x.number(0, 0, 6);
            x.lay();
            due("cell(0, 0, 0) of 6", x.cell(0, 0, 0), 2);
            due("cell(0, 1, 0) of 6", x.cell(0, 1, 0), 1);
            x.number(0, 0, -6);
            x.lay();
            int[] levels = {0, 0, 2, 1};
            for (int c = 0; c < 4; c++) {
                due("cell(0, " + c + ", 0) of -6", x.cell(0, c, 0), levels[c]);
            }
        });
        test("11: all its CELLS are written, no others", () -> {
            MeshSums x = tableOf(3, 5, 3, 2, 1, 2);
            for (int at = 0; at < 15; at++) {
                x.write(at / 5, at % 5, 1);
            }
            x.fade(6);
            due("lay()", x.lay(), 0);
            for (int at = 0; at < 15; at++) {
                boolean its = at / 5 < 2 && at % 5 < 4;
                due("LEVEL of CELL " + at, x.cell(at / 5, at % 5, 0), its ? 0 : 1);
                due("age of CELL " + at, x.cell(at / 5, at % 5, 2), its ? 0 : 6);
            }
        });
        test("11: how many of them STICK at another LEVEL: none that STICKS at its own, all", () -> {
            MeshSums x = tableOf(8, 24, 1, 8, 2, 6);
            for (int at = 0; at < 192; at++) {
                x.stick(at / 24, at % 24, 0);
            }
            due("lay() of 0 on 0", x.lay(), 0);
            for (int at = 0; at < 192; at++) {
                x.stick(at / 24, at % 24, 1);
            }
            due("lay() of 0 on 1", x.lay(), 192);
            due("cell(7, 23, 0)", x.cell(7, 23, 0), 1);
            due("count(7)", x.count(7), 1);
        });
        test("11: CELLS behind the table's and of other ROWS are not among them", () -> {
            MeshSums x = tableOf(2, 3, 3, 1, 1, 1);
            x.stick(0, 2, 1);
            x.stick(1, 0, 1);
            due("lay()", x.lay(), 0);
            x.stick(0, 1, 1);
            due("lay()", x.lay(), 1);
        });
        test("11: a CELL that STICKS is written, too: its age is 0", () -> {
            MeshSums x = tableOf(1, 2, 3, 1, 1, 1);
            x.fade(4);
            x.stick(0, 0, 0);
            x.stick(0, 1, 2);
            due("lay()", x.lay(), 1);
            due("cell(0, 0, 2)", x.cell(0, 0, 2), 0);
            due("cell(0, 1, 2)", x.cell(0, 1, 2), 0);
        });
        test("11: LAID again, on the ROWS it is MAPPED to then", () -> {
            MeshSums x = tableOf(2, 2, 3, 1, 1, 1);
            x.number(0, 0, 3);
            due("lay()", x.lay(), 0);
            x.stick(0, 0, 1);
            due("lay()", x.lay(), 1);
            due("map()", x.map(), 0);
            due("lay()", x.lay(), 0);
            due("cell(1, 0, 0)", x.cell(1, 0, 0), 3);
            due("cell(0, 0, 0)", x.cell(0, 0, 0), 1);
        });
    }

    // ---- Promises 12 to 14

    private static MeshSums greatestLaid(int sign) {
        MeshSums x = tableOf(8, 24, 15, 8, 2, 6);
        for (int i = 0; i < 8; i++) {
            x.number(i, 0, sign * GREATEST_NUMBER);
            x.number(i, 1, -sign * GREATEST_NUMBER);
            x.input(i, 255);
        }
        due("lay()", x.lay(), 0);
        return x;
    }

    private static void product() {
        test("12: BAD, no such number of the table", () -> {
            for (int k : new int[] {-1, 2, 11, 12, LEAST, MOST, 1 << 30}) {
                refused(EdgeTest::full, "product(" + k + ")", x -> x.product(k), BAD_PRODUCT);
            }
        });
        test("12: nothing LAID, no table: that, too", () -> {
            refused(MeshSums::new, "product(0)", x -> x.product(0), BAD_PRODUCT);
            refused(EdgeTest::bare, "product(0)", x -> x.product(0), BAD_PRODUCT);
            refused(() -> tableOf(2, 4, 3, 2, 1, 2), "product(0) of one that is to be laid", x -> x.product(0), BAD_PRODUCT);
            MeshSums x = full();
            x.map();
            due("product(0) behind map()", x.product(0) == BAD_PRODUCT ? 1 : 0, 0);
            x.mesh(4, 13, 3);
            due("product(0) behind mesh()", x.product(0), BAD_PRODUCT);
        });
        test("12: the first and the last of 12", () -> {
            MeshSums x = tableOf(1, 24, 15, 1, 12, 1);
            x.number(0, 0, 15);
            x.number(0, 11, -14);
            x.input(0, 3);
            x.lay();
            due("product(0)", x.product(0), 45);
            due("product(11)", x.product(11), -42);
            due("product(1)", x.product(1), 0);
            due("product(12)", x.product(12), BAD_PRODUCT);
        });
        test("12: the greatest and the least, past what an int holds", () -> {
            long most = 8L * 255 * GREATEST_NUMBER;
            for (int sign : new int[] {1, -1}) {
                MeshSums x = greatestLaid(sign);
                due("product(0)", x.product(0), sign * most);
                due("product(1)", x.product(1), -sign * most);
            }
        });
        test("12, Terms: each bit 0 .. 7 of the inputs", () -> {
            MeshSums x = tableOf(1, 4, 3, 1, 1, 2);
            x.number(0, 0, 13);
            x.lay();
            due("product(0) of 0", x.product(0), 0);
            for (int bit = 0; bit < 8; bit++) {
                x.input(0, 1 << bit);
                due("product(0) of bit " + bit, x.product(0), 13L << bit);
            }
            x.input(0, 255);
            due("product(0) of all bits", x.product(0), 13 * 255);
        });
        test("12, Terms: each COLUMN's sum through CONVERTERS", () -> {
            // 8 ROWS of 15: each bit's sum is 120 in each COLUMN of DIGITS, told as 2 to the bits less 1.
            MeshSums x = greatestLaid(1);
            long ones = 1 + 16 + 256 + 4096 + 65536 + 1048576;
            for (int b = 1; b <= 16; b++) {
                x.bits(b);
                due("product(0) by " + b + " bits", x.product(0), 255 * ones * Math.min(120, (1 << b) - 1));
                due("product(1) by " + b + " bits", x.product(1), -255 * ones * Math.min(120, (1 << b) - 1));
            }
        });
        test("12, Terms: just what CONVERTERS tell, and one above", () -> {
            for (int level : new int[] {1, 2}) {
                MeshSums x = tableOf(2, 2, 6, 2, 1, 1);
                x.number(0, 0, 6);
                x.number(1, 0, level);
                x.input(0, 1);
                x.input(1, 1);
                x.lay();
                x.bits(3);
                due("product(0) of 6 and " + level, x.product(0), 7);
                x.bits(4);
                due("product(0) by 4 bits", x.product(0), 6 + level);
                due("due(0)", x.due(0), 6 + level);
            }
        });
        test("12, Terms: nothing for other ROWS; the input of row i goes to its ROW", () -> {
            MeshSums x = tableOf(3, 2, 3, 1, 1, 1);
            x.number(0, 0, 3);
            x.input(0, 5);
            x.input(1, 7);
            x.input(2, 11);
            x.stick(0, 0, 1);
            x.stick(1, 1, 2);
            due("map()", x.map(), 0);
            due("mapped(0)", x.mapped(0), 2);
            due("lay()", x.lay(), 0);
            due("product(0)", x.product(0), 15);
            due("due(0)", x.due(0), 15);
            due("sum(0)", x.sum(0), 5 + 33);
        });
        test("12: by what the CELLS have, and the ROWS MAPPED to, now", () -> {
            MeshSums x = tableOf(2, 2, 3, 1, 1, 1);
            x.number(0, 0, 3);
            x.input(0, 1);
            x.lay();
            x.write(0, 1, 2);
            due("product(0) behind write()", x.product(0), 1);
            x.stick(0, 0, 0);
            due("product(0) behind stick()", x.product(0), -2);
            due("map()", x.map(), 0);
            due("product(0) behind map(), nothing on that ROW", x.product(0), 0);
        });
    }

    private static void dueAndEnough() {
        test("13: BAD, no such number of the table", () -> {
            for (int k : new int[] {-1, 2, 11, 12, LEAST, MOST}) {
                refused(EdgeTest::full, "due(" + k + ")", x -> x.due(k), BAD_PRODUCT);
            }
        });
        test("13: no table", () -> {
            for (int k : new int[] {-1, 0, 1, MOST}) {
                refused(MeshSums::new, "due(" + k + ")", x -> x.due(k), BAD_PRODUCT);
                refused(EdgeTest::bare, "due(" + k + ")", x -> x.due(k), BAD_PRODUCT);
            }
            MeshSums x = full();
            x.mesh(4, 13, 3);
            due("due(0) behind mesh()", x.due(0), BAD_PRODUCT);
        });
        test("13: nothing LAID, all 0, inputs 0", () -> {
            MeshSums x = tableOf(2, 4, 3, 2, 1, 2);
            x.input(0, 255);
            due("due(0) of 0", x.due(0), 0);
            x.number(0, 0, 15);
            x.number(1, 0, -15);
            due("due(0), nothing LAID", x.due(0), 15 * 255);
            x.input(0, 0);
            due("due(0) of inputs 0", x.due(0), 0);
        });
        test("13: the greatest and the least, past what an int holds", () -> {
            long most = 8L * 255 * GREATEST_NUMBER;
            for (int sign : new int[] {1, -1}) {
                MeshSums x = greatestLaid(sign);
                x.bits(1);
                due("due(0)", x.due(0), sign * most);
                due("due(1)", x.due(1), -sign * most);
            }
        });
        test("13: by the table's own numbers and inputs, whatever STICKS or is MAPPED", () -> {
            MeshSums x = tableOf(3, 2, 3, 2, 1, 1);
            x.number(0, 0, 3);
            x.number(1, 0, -2);
            x.input(0, 10);
            x.input(1, 7);
            x.input(2, 255);
            x.stick(0, 0, 0);
            x.map();
            x.lay();
            due("mapped(1)", x.mapped(1), 0);
            due("due(0)", x.due(0), 30 - 14);
        });
        test("14: NO, there is no table", () -> {
            refused(MeshSums::new, "enough()", MeshSums::enough, NO);
            refused(EdgeTest::bare, "enough()", MeshSums::enough, NO);
        });
        test("14: the fewest bits that tell any sum of n table rows with one bit each", () -> {
            for (int t = 1; t <= 15; t++) {
                for (int n = 1; n <= 8; n++) {
                    MeshSums x = tableOf(8, 2, t, n, 1, 1);
                    int fewest = 1;
                    while ((1 << fewest) - 1 < n * t) {
                        fewest++;
                    }
                    due("enough() for n " + n + ", t " + t, x.enough(), fewest);
                    for (int i = 0; i < n; i++) {
                        x.number(i, 0, t);
                        x.input(i, 255);
                    }
                    x.lay();
                    due("bits(enough())", x.bits(fewest), 16);
                    due("product(0) by so many", x.product(0), 255 * n * t);
                    if (fewest > 1) {
                        x.bits(fewest - 1);
                        due("1 if product(0) by one less is less", x.product(0) < 255 * n * t ? 1 : 0, 1);
                    }
                    due("enough() whatever CONVERTERS have", x.enough(), fewest);
                }
            }
        });
    }

    // ---- Promises 15 and 16

    private static void map() {
        test("15: NO, there is no table", () -> {
            refused(MeshSums::new, "map()", MeshSums::map, NO);
            refused(EdgeTest::bare, "map()", MeshSums::map, NO);
        });
        test("15, Terms: none STICKS: each order is as good, the first is taken", () -> {
            for (int n = 1; n <= 8; n++) {
                MeshSums x = tableOf(8, 2, 3, n, 1, 1);
                x.number(n - 1, 0, 3);
                due("map()", x.map(), 0);
                for (int i = 0; i < n; i++) {
                    due("mapped(" + i + ")", x.mapped(i), i);
                }
            }
        });
        test("15, Terms: all STICK alike: the first order again, at the dearest", () -> {
            MeshSums x = tableOf(8, 24, 15, 8, 2, 6);
            for (int at = 0; at < 192; at++) {
                x.stick(at / 24, at % 24, 15);
            }
            due("map()", x.map(), 192 * 15);
            for (int i = 0; i < 8; i++) {
                due("mapped(" + i + ")", x.mapped(i), i);
            }
        });
        test("15, Terms: the last of all orders of 8", () -> {
            // ROW r STICKS at 2 (7 - r), which is what row 7 - r is to have: only one order costs nothing.
            MeshSums x = tableOf(8, 2, 15, 8, 1, 1);
            for (int i = 0; i < 8; i++) {
                x.number(i, 0, 2 * i);
                x.stick(i, 0, 2 * (7 - i));
            }
            due("map()", x.map(), 0);
            for (int i = 0; i < 8; i++) {
                due("mapped(" + i + ")", x.mapped(i), 7 - i);
            }
        });
        test("15, Terms: of like ones the first, row 0's ROW first, rising", () -> {
            // ROWS 1 and 3 cost row 0 nothing and ROW 1 costs row 1 nothing; 1, 0 and 3, 0 are dearer than 3, 1.
            MeshSums x = tableOf(4, 2, 3, 2, 1, 1);
            x.number(0, 0, 2);
            x.number(1, 0, 2);
            for (int r : new int[] {0, 2}) {
                x.stick(r, 0, 0);
            }
            due("map()", x.map(), 0);
            due("mapped(0)", x.mapped(0), 1);
            due("mapped(1)", x.mapped(1), 3);
            x.stick(3, 0, 1);
            due("map()", x.map(), 1);
            due("mapped(0)", x.mapped(0), 1);
            due("mapped(1)", x.mapped(1), 3);
            x.stick(3, 0, NONE);
            x.number(1, 0, 3);
            x.stick(1, 0, 3);
            due("map()", x.map(), 0);
            due("mapped(0)", x.mapped(0), 3);
            due("mapped(1)", x.mapped(1), 1);
        });
        test("15, Terms: the size of a difference, above and below", () -> {
            MeshSums x = tableOf(1, 2, 15, 1, 1, 1);
            x.number(0, 0, 7);
            x.stick(0, 0, 15);
            due("map() of 15 for 7", x.map(), 8);
            x.stick(0, 0, 0);
            due("map() of 0 for 7", x.map(), 7);
            x.stick(0, 0, 7);
            due("map() of 7 for 7", x.map(), 0);
            x.stick(0, 1, 1);
            due("map() of 1 for 0", x.map(), 1);
        });
        test("15, Terms: CELLS that a table row is to have, of those that STICK", () -> {
            MeshSums x = tableOf(2, 3, 3, 1, 1, 1);
            x.stick(0, 2, 3);
            due("map() past a CELL behind the table's", x.map(), 0);
            due("mapped(0)", x.mapped(0), 0);
            x.write(0, 0, 3);
            due("map() past a LEVEL that does not STICK", x.map(), 0);
            due("mapped(0)", x.mapped(0), 0);
            x.stick(0, 1, 3);
            due("map()", x.map(), 0);
            due("mapped(0)", x.mapped(0), 1);
        });
        test("15: nothing is left of a larger MESH that was MAPPED before", () -> {
            for (int r = 1; r < 8; r++) {
                MeshSums x = tableOf(8, 2, 15, 8, 1, 1);
                for (int row = 0; row < 8; row++) {
                    x.stick(row, 0, 15);
                }
                due("map()", x.map(), 8 * 15);
                due("mesh(" + r + ", 2, 15)", x.mesh(r, 2, 15), 1);
                due("table(" + r + ", 1, 1)", x.table(r, 1, 1), 1);
                due("map()", x.map(), 0);
                x.stick(0, 1, 2);
                due("map() where one STICKS", x.map(), 2);
                due("mapped(r - 1)", x.mapped(r - 1), r - 1);
            }
        });
        test("15: what is LAID stays", () -> {
            MeshSums x = tableOf(2, 2, 3, 1, 1, 1);
            x.number(0, 0, 2);
            due("map(), nothing LAID", x.map(), 0);
            due("count(7)", x.count(7), 0);
            x.lay();
            x.stick(0, 0, 1);
            x.fade(3);
            due("map()", x.map(), 0);
            due("count(7)", x.count(7), 1);
            due("cell(0, 0, 0)", x.cell(0, 0, 0), 1);
            due("cell(1, 0, 0)", x.cell(1, 0, 0), 0);
            due("cell(1, 0, 2)", x.cell(1, 0, 2), 3);
        });
        test("15: MAPPED anew, and anew", () -> {
            MeshSums x = tableOf(2, 2, 3, 1, 1, 1);
            x.number(0, 0, 2);
            x.stick(0, 0, 1);
            due("map()", x.map(), 0);
            due("mapped(0)", x.mapped(0), 1);
            x.stick(0, 0, NONE);
            due("map()", x.map(), 0);
            due("mapped(0)", x.mapped(0), 0);
        });
    }

    private static void mapped() {
        test("16: BAD, no row of the table", () -> {
            for (int i : new int[] {-1, 3, 4, 7, 8, LEAST, MOST}) {
                refused(EdgeTest::full, "mapped(" + i + ")", x -> x.mapped(i), BAD);
            }
            MeshSums x = tableOf(8, 2, 1, 8, 1, 1);
            due("mapped(7)", x.mapped(7), 7);
            due("mapped(8)", x.mapped(8), BAD);
        });
        test("16: NO, there is no table", () -> {
            for (int i : new int[] {0, 1, 2, 3, 7}) {
                refused(MeshSums::new, "mapped(" + i + ")", x -> x.mapped(i), NO);
                refused(EdgeTest::bare, "mapped(" + i + ")", x -> x.mapped(i), NO);
            }
            MeshSums x = full();
            x.mesh(4, 13, 3);
            due("mapped(0) behind mesh()", x.mapped(0), NO);
        });
        test("16: BAD ahead of NO: below 0 is the number of no row", () -> {
            for (int i : new int[] {-1, -2, LEAST}) {
                refused(MeshSums::new, "mapped(" + i + ")", x -> x.mapped(i), BAD);
                refused(EdgeTest::bare, "mapped(" + i + ")", x -> x.mapped(i), BAD);
            }
        });
    }

    // ---- Promises 17 and 18

    private static void sealAndLook() {
        test("17: SEALED anew", () -> {
            MeshSums x = meshOf(1, 1, 1);
            due("seal()", x.seal(), 1);
            due("count(8)", x.count(8), 1);
            x.input(0, 1);
            x.write(0, 0, 1);
            due("look()", x.look(), 0);
            due("seal()", x.seal(), 1);
            due("look()", x.look(), NONE);
            due("count(8)", x.count(8), 1);
        });
        test("17: of all COLUMNS and ROWS", () -> {
            for (int[] at : new int[][] {{0, 0}, {0, 23}, {7, 0}, {7, 23}}) {
                MeshSums x = meshOf(8, 24, 15);
                x.write(at[0], at[1], 15);
                x.input(at[0], 255);
                x.seal();
                due("look()", x.look(), NONE);
                x.write(at[0], at[1], 14);
                due("look() at one less", x.look(), at[1]);
            }
        });
        test("18: NO, not SEALED", () -> {
            refused(MeshSums::new, "look()", MeshSums::look, NO);
            refused(EdgeTest::bare, "look()", MeshSums::look, NO);
            MeshSums x = full();
            x.mesh(4, 13, 3);
            due("look() behind mesh()", x.look(), NO);
        });
        test("18: CELLS may be written since; a table laid since, too", () -> {
            MeshSums x = meshOf(1, 2, 3);
            x.seal();
            x.input(0, 1);
            x.write(0, 1, 3);
            due("look()", x.look(), 1);
            x.write(0, 1, 0);
            due("look() at what it was", x.look(), NONE);
            x.table(1, 1, 1);
            x.number(0, 0, 2);
            x.lay();
            due("count(8)", x.count(8), 1);
            due("look()", x.look(), 0);
        });
        test("18, Terms: each COLUMN, one more and one less (e 1 and 96)", () -> {
            for (int c = 1; c <= 24; c++) {
                MeshSums x = meshOf(1, c, 2);
                for (int j = 0; j < c; j++) {
                    x.write(0, j, 1);
                }
                x.input(0, 1);
                x.seal();
                for (int j = 0; j < c; j++) {
                    x.write(0, j, 2);
                    due("look() at one more, " + c + " COLUMNS", x.look(), j);
                    x.write(0, j, 0);
                    due("look() at one less, " + c + " COLUMNS", x.look(), j);
                    x.write(0, j, 1);
                }
            }
        });
        test("18, Terms: e (j + 1) by 97 for each e", () -> {
            MeshSums x = meshOf(1, 24, 1);
            x.seal();
            x.write(0, 23, 1);
            for (int e = 0; e <= 200; e++) {
                x.input(0, e);
                due("look() with x " + e, x.look(), e % 97 == 0 ? NONE : 23);
            }
        });
        test("18, Terms: by 97: what is 97 off is not seen", () -> {
            MeshSums x = meshOf(2, 2, 15);
            x.seal();
            x.input(0, 97);
            x.write(0, 1, 15);
            due("look()", x.look(), NONE);
            x.input(1, 1);
            x.write(1, 0, 1);
            due("look() past it", x.look(), 0);
        });
        test("18, Terms: CHECKS are by 97, the greatest of them, too", () -> {
            MeshSums x = meshOf(8, 24, 15);
            for (int at = 0; at < 192; at++) {
                x.write(at / 24, at % 24, 15);
            }
            x.seal();
            for (int r = 0; r < 8; r++) {
                x.input(r, 255);
                due("look()", x.look(), NONE);
            }
            x.write(7, 23, 0);
            due("look() at COLUMN 23", x.look(), 23);
            x.write(7, 23, 15);
            x.write(0, 0, 0);
            due("look() at COLUMN 0", x.look(), 0);
        });
        test("18, Terms: inputs 0: nothing is seen", () -> {
            MeshSums x = meshOf(2, 3, 15);
            x.seal();
            x.write(0, 0, 9);
            x.write(1, 2, 4);
            due("look()", x.look(), NONE);
            x.input(1, 1);
            due("look()", x.look(), 2);
        });
        test("18, Terms: e 0 and f not: several", () -> {
            MeshSums x = meshOf(1, 2, 2);
            x.write(0, 0, 1);
            x.write(0, 1, 1);
            x.input(0, 1);
            x.seal();
            x.write(0, 0, 2);
            x.write(0, 1, 0);
            due("look()", x.look(), SEVERAL);
        });
        test("18, Terms: e not 0 and f 0: several", () -> {
            // One more in COLUMN 0 for 1, one in COLUMN 11 for 96 / 12: f is 1 + 96.
            MeshSums x = meshOf(2, 24, 15);
            x.seal();
            x.input(0, 1);
            x.input(1, 8);
            x.write(0, 0, 1);
            x.write(1, 11, 1);
            due("look()", x.look(), SEVERAL);
        });
        test("18, Terms: the first COLUMN that is not there: several", () -> {
            for (int c = 2; c <= 24; c++) {
                for (int more = 0; more <= 1 && c + more <= 24; more++) {
                    // COLUMN c - 2 one less, COLUMN c - 1 two more: e is 1, and f c + 1.
                    MeshSums x = meshOf(1, c + more, 2);
                    x.write(0, c - 2, 1);
                    x.input(0, 1);
                    x.seal();
                    x.write(0, c - 2, 0);
                    x.write(0, c - 1, 2);
                    due("look() with " + (c + more) + " COLUMNS", x.look(), more == 0 ? SEVERAL : c);
                }
            }
        });
        test("18, Terms: THE SUMS themselves, whatever CONVERTERS tell", () -> {
            MeshSums x = meshOf(1, 2, 15);
            x.write(0, 1, 15);
            x.input(0, 255);
            x.seal();
            x.bits(1);
            due("look()", x.look(), NONE);
            x.write(0, 1, 14);
            due("look()", x.look(), 1);
        });
    }

    // ---- Promises 19 and 20

    private static void fade() {
        test("19, Terms: 1 .. 100 TICKS", () -> {
            MeshSums x = meshOf(1, 1, 1);
            due("fade(1)", x.fade(1), 0);
            due("cell(0, 0, 2)", x.cell(0, 0, 2), 1);
            due("fade(100)", x.fade(100), 0);
            due("cell(0, 0, 2)", x.cell(0, 0, 2), 101);
            due("fade(99)", x.fade(99), 0);
            due("cell(0, 0, 2)", x.cell(0, 0, 2), 200);
            for (int k : new int[] {0, 101, -1, LEAST, MOST}) {
                refusedByAll("fade(" + k + ")", y -> y.fade(k), BAD);
            }
        });
        test("19, Terms: falls by 1 where its age is 16 less its LEVEL", () -> {
            for (int level = 1; level <= 15; level++) {
                MeshSums x = meshOf(1, 1, 15);
                x.write(0, 0, level);
                if (level < 15) {
                    due("fade(15 - " + level + ")", x.fade(15 - level), 0);
                    due("LEVEL", x.cell(0, 0, 0), level);
                    due("age", x.cell(0, 0, 2), 15 - level);
                }
                due("fade(1)", x.fade(1), 1);
                due("LEVEL", x.cell(0, 0, 0), level - 1);
                due("age", x.cell(0, 0, 2), 0);
                due("fade of what it takes then", level == 1 ? 0 : x.fade(17 - level), level == 1 ? 0 : 1);
            }
        });
        test("19, Terms: or more", () -> {
            for (int level = 1; level <= 15; level++) {
                MeshSums x = meshOf(1, 1, 15);
                x.fade(9);
                x.stick(0, 0, level);
                x.stick(0, 0, NONE);
                due("fade(1) of " + level + " at the age of 9", x.fade(1), level >= 6 ? 1 : 0);
                due("LEVEL", x.cell(0, 0, 0), level >= 6 ? level - 1 : level);
                due("age", x.cell(0, 0, 2), level >= 6 ? 0 : 10);
            }
        });
        test("19, Terms: if it is above 0: 0 does not fall, but grows older", () -> {
            MeshSums x = meshOf(2, 2, 15);
            for (int i = 1; i <= 20; i++) {
                due("fade(100)", x.fade(100), 0);
            }
            due("cell(1, 1, 0)", x.cell(1, 1, 0), 0);
            due("cell(1, 1, 2)", x.cell(1, 1, 2), 2000);
        });
        test("19: how many LEVELS fell, each fall counted", () -> {
            MeshSums x = meshOf(8, 24, 15);
            for (int at = 0; at < 192; at++) {
                x.write(at / 24, at % 24, 15);
            }
            // 15 falls behind 1, 14 behind 2 more ..: 13 of them in 91 of 100, 1 is there behind 105, 0 behind 120.
            due("fade(100)", x.fade(100), 192 * 13);
            due("cell(7, 23, 0)", x.cell(7, 23, 0), 2);
            due("cell(7, 23, 2)", x.cell(7, 23, 2), 9);
            due("fade(4)", x.fade(4), 0);
            due("fade(1)", x.fade(1), 192);
            due("fade(14)", x.fade(14), 0);
            due("fade(1)", x.fade(1), 192);
            due("fade(100)", x.fade(100), 0);
            due("cell(0, 0, 0)", x.cell(0, 0, 0), 0);
            due("cell(0, 0, 2)", x.cell(0, 0, 2), 100);
        });
        test("19, Terms: each CELL that does not STICK: those that do are no older", () -> {
            MeshSums x = meshOf(1, 2, 15);
            x.write(0, 0, 3);
            x.write(0, 1, 3);
            x.fade(12);
            x.stick(0, 1, 3);
            due("fade(1)", x.fade(1), 1);
            due("cell(0, 0, 0)", x.cell(0, 0, 0), 2);
            due("cell(0, 1, 0)", x.cell(0, 1, 0), 3);
            due("cell(0, 1, 2)", x.cell(0, 1, 2), 12);
            x.stick(0, 1, NONE);
            due("fade(1)", x.fade(1), 1);
            due("cell(0, 1, 0)", x.cell(0, 1, 0), 2);
            due("cell(0, 1, 2)", x.cell(0, 1, 2), 0);
        });
        test("19, Terms: TICKS since it was written", () -> {
            MeshSums x = meshOf(1, 1, 1);
            x.write(0, 0, 1);
            due("fade(14)", x.fade(14), 0);
            x.write(0, 0, 1);
            due("fade(14)", x.fade(14), 0);
            due("fade(1)", x.fade(1), 1);
        });
    }

    private static int pulses(int from, int to, int t) {
        if (to <= from) {
            return from - to;
        }
        int rise = to - from;
        return rise % 2 == 0 ? rise / 2 : (rise + 1) / 2 + (to == t ? 0 : 1);
    }

    private static void pulse() {
        test("20, Terms: below v 2 more (t at most), above it 1 less, till it is v", () -> {
            for (int t = 1; t <= 15; t++) {
                for (int from = 0; from <= t; from++) {
                    MeshSums x = meshOf(1, 1, t);
                    for (int to = 0; to <= t; to++) {
                        x.write(0, 0, from);
                        due("pulse from " + from + " to " + to + ", t " + t, x.pulse(0, 0, to), pulses(from, to, t));
                        due("LEVEL", x.cell(0, 0, 0), to);
                    }
                }
            }
        });
        test("20, Terms: or 40 PULSES were given: no way is longer than 15", () -> {
            MeshSums x = meshOf(8, 24, 15);
            due("pulse(7, 23, 15)", x.pulse(7, 23, 15), 8);
            due("pulse(7, 23, 0)", x.pulse(7, 23, 0), 15);
        });
        test("20: BAD, a ROW or a COLUMN outside", () -> refusedOutsideAll("pulse", (x, r, c) -> x.pulse(r, c, 1)));
        test("20: BAD, a LEVEL not 0 .. t", () -> {
            for (int v : new int[] {-1, -2, 16, LEAST, MOST}) {
                refusedByAll("pulse(0, 0, " + v + ")", x -> x.pulse(0, 0, v), BAD);
            }
            refused(MeshSums::new, "pulse(0, 0, 2)", x -> x.pulse(0, 0, 2), BAD);
            refused(EdgeTest::bare, "pulse(0, 0, 6)", x -> x.pulse(0, 0, 6), BAD);
            refused(EdgeTest::full, "pulse(0, 1, 4)", x -> x.pulse(0, 1, 4), BAD);
        });
        test("20: NO, it STICKS, at whatever LEVEL", () -> {
            for (int v = 0; v <= 5; v++) {
                int to = v;
                refused(EdgeTest::bare, "pulse(1, 4, " + v + ")", x -> x.pulse(1, 4, to), NO);
            }
            refused(EdgeTest::full, "pulse(0, 0, 0)", x -> x.pulse(0, 0, 0), NO);
            refused(EdgeTest::full, "pulse(0, 0, 3)", x -> x.pulse(0, 0, 3), NO);
        });
        test("20: BAD ahead of NO", () -> {
            refused(EdgeTest::bare, "pulse(1, 4, 6)", x -> x.pulse(1, 4, 6), BAD);
            refused(EdgeTest::bare, "pulse(1, 4, -1)", x -> x.pulse(1, 4, -1), BAD);
            refused(EdgeTest::full, "pulse(0, 0, 4)", x -> x.pulse(0, 0, 4), BAD);
        });
        test("20: its age is 0, if any were given", () -> {
            MeshSums x = meshOf(1, 2, 5);
            x.write(0, 0, 3);
            x.fade(8);
            due("pulse(0, 0, 3)", x.pulse(0, 0, 3), 0);
            due("cell(0, 0, 2)", x.cell(0, 0, 2), 8);
            due("pulse(0, 0, 2)", x.pulse(0, 0, 2), 1);
            due("cell(0, 0, 2)", x.cell(0, 0, 2), 0);
            due("cell(0, 1, 2) of another", x.cell(0, 1, 2), 8);
            due("pulse(0, 1, 1)", x.pulse(0, 1, 1), 2);
            due("cell(0, 1, 2)", x.cell(0, 1, 2), 0);
        });
    }

    // ---- Promises 21 to 24

    private static void find() {
        test("21, Terms: k 1 .. 3, s k .. 5", () -> {
            for (int k = -1; k <= 6; k++) {
                for (int s = -1; s <= 7; s++) {
                    int inputs = k;
                    int cells = s;
                    if (k >= 1 && k <= 3 && s >= k && s <= 5) {
                        due("find(" + k + ", " + s + ", input 0)", new MeshSums().find(k, s, new int[] {2, 10, 170}[k - 1]), 0);
                    } else {
                        refusedByAll("find(" + k + ", " + s + ", 0)", x -> x.find(inputs, cells, 0), BAD);
                    }
                }
            }
            for (int far : new int[] {LEAST, MOST, 32, 33}) {
                refusedByAll("find(" + far + ", 5, 0)", x -> x.find(far, 5, 0), BAD);
                refusedByAll("find(" + far + ", " + far + ", 0)", x -> x.find(far, far, 0), BAD);
                refusedByAll("find(1, " + far + ", 0)", x -> x.find(1, far, 0), BAD);
            }
        });
        test("21: BAD, also a TABLE not 0 .. 2 to the 2 to the k-th less 1", () -> {
            int[] most = {3, 15, 255};
            for (int k = 1; k <= 3; k++) {
                int inputs = k;
                due("find(" + k + ", 5, 0)", new MeshSums().find(k, 5, 0), 0);
                due("find(" + k + ", 5, " + most[k - 1] + ")", new MeshSums().find(k, 5, most[k - 1]), 1);
                for (int table : new int[] {-1, most[k - 1] + 1, LEAST, MOST, 256, 65536}) {
                    refusedByAll("find(" + k + ", 5, " + table + ")", x -> x.find(inputs, 5, table), BAD);
                    refusedByAll("find(" + k + ", " + k + ", " + table + ")", x -> x.find(inputs, inputs, table), BAD);
                }
            }
        });
        test("21, Terms: bit v is what is wanted where input i is bit i of v; without ACTS, too", () -> {
            int[][] tables = {{2}, {10, 12}, {170, 204, 240}};
            for (int k = 1; k <= 3; k++) {
                for (int s = k; s <= 5; s++) {
                    for (int i = 0; i < k; i++) {
                        MeshSums x = new MeshSums();
                        due("find of input " + i, x.find(k, s, tables[k - 1][i]), 0);
                        due("where()", x.where(), i);
                        due("met()", x.met(), 1);
                        due("actAt(0, 0)", x.actAt(0, 0), NONE);
                    }
                }
            }
        });
        test("21, Terms: the others 0: there are none where s is k", () -> {
            for (int k = 1; k <= 3; k++) {
                MeshSums x = new MeshSums();
                due("find(k, k, 0)", x.find(k, k, 0), NONE);
                due("met()", x.met(), 1);
                if (k < 3) {
                    due("find(k, k + 1, 0)", x.find(k, k + 1, 0), 0);
                    due("where()", x.where(), k);
                }
            }
        });
        test("21, Terms: c another one than both, no input's", () -> {
            // One CELL beside x: not x is all that it can become, for c is neither a nor b.
            MeshSums x = new MeshSums();
            due("find(1, 2, 3)", x.find(1, 2, 3), NONE);
            due("met()", x.met(), 2);
            due("find(1, 2, 1)", x.find(1, 2, 1), 1);
            due("actAt(0, 0)", x.actAt(0, 0), 0);
            due("actAt(0, 1)", x.actAt(0, 1), 0);
            due("actAt(0, 2)", x.actAt(0, 2), 1);
            due("find(1, 3, 3)", x.find(1, 3, 3), 1);
            due("actAt(0, 0)", x.actAt(0, 0), 1);
            due("actAt(0, 1)", x.actAt(0, 1), 1);
            due("actAt(0, 2)", x.actAt(0, 2), 2);
        });
        test("21: NONE, there is none; what was FOUND stays", () -> {
            MeshSums x = new MeshSums();
            due("find(1, 1, 3)", x.find(1, 1, 3), NONE);
            due("where(), nothing FOUND", x.where(), NONE);
            due("find(2, 5, 8)", x.find(2, 5, 8), 3);
            long found = x.digest();
            due("find(2, 4, 8)", x.find(2, 4, 8), NONE);
            due("digest()", x.digest(), found);
            due("where()", x.where(), 4);
            due("met() of the one behind", x.met(), 74);
        });
        test("21: FOUND anew, shorter or without ACTS", () -> {
            MeshSums x = new MeshSums();
            due("find(2, 5, 6)", x.find(2, 5, 6), 5);
            due("actAt(4, 0) is there", x.actAt(4, 0) >= 0 ? 1 : 0, 1);
            due("actAt(5, 0)", x.actAt(5, 0), NONE);
            due("find(1, 2, 1)", x.find(1, 2, 1), 1);
            due("actAt(0, 2)", x.actAt(0, 2), 1);
            due("actAt(1, 0)", x.actAt(1, 0), NONE);
            due("find(1, 2, 2)", x.find(1, 2, 2), 0);
            due("actAt(0, 0)", x.actAt(0, 0), NONE);
            due("where()", x.where(), 0);
        });
        test("21, Terms: 8000 states are met at most (SPENT): no search comes to that", () -> {
            int most = 0;
            for (int k = 1; k <= 3; k++) {
                for (int s = k; s <= 5; s++) {
                    for (int table = 0; table < 1 << (1 << k); table++) {
                        MeshSums x = new MeshSums();
                        int answer = x.find(k, s, table);
                        due("1 if find(" + k + ", " + s + ", " + table + ") is NONE or FOUND", answer >= NONE && answer != SPENT ? 1 : 0, 1);
                        most = Math.max(most, x.met());
                    }
                }
            }
            due("1 if none met 8000", most < 8000 ? 1 : 0, 1);
        });
    }

    private static int leastCellWith(int[] tables, int table) {
        for (int cell = 0; cell < tables.length; cell++) {
            if (tables[cell] == table) {
                return cell;
            }
        }
        return NONE;
    }

    /** The TABLE is there behind the last ACT alone, in the CELL that where() tells, and in none below it. */
    private static void goThroughActs(int k, int s, int table) {
        String call = " of find(" + k + ", " + s + ", " + table + ")";
        MeshSums x = new MeshSums();
        int acts = x.find(k, s, table);
        int[] tables = Arrays.copyOf(new int[][] {{2}, {10, 12}, {170, 204, 240}}[k - 1], s);
        int ones = (1 << (1 << k)) - 1;
        for (int i = 0; i < acts; i++) {
            int a = x.actAt(i, 0);
            int b = x.actAt(i, 1);
            int c = x.actAt(i, 2);
            boolean asTold = a >= 0 && b >= a && b < s && c >= k && c < s && c != a && c != b;
            due("1 if ACT " + i + call + " is as told", asTold ? 1 : 0, 1);
            due("CELL with the TABLE ahead of ACT " + i + call, leastCellWith(tables, table), NONE);
            if (asTold) {
                tables[c] = ones & ~(tables[a] | tables[b]);
            }
        }
        due("actAt behind the last" + call, x.actAt(Math.max(acts, 0), 0), NONE);
        due("where()" + call, x.where(), acts < 0 ? NONE : leastCellWith(tables, table));
    }

    private static void found() {
        test("22, Terms: CELL c becomes not (a or b); b not below a; c another one than both, no input's", () -> {
            for (int k = 1; k <= 3; k++) {
                for (int s = k; s <= 5; s++) {
                    for (int table = 0; table < 1 << (1 << k); table++) {
                        goThroughActs(k, s, table);
                    }
                }
            }
        });
        test("22: NONE, not so many", () -> {
            MeshSums x = full();
            for (int i : new int[] {3, 4, MOST}) {
                for (int what = 0; what <= 2; what++) {
                    due("actAt(" + i + ", " + what + ")", x.actAt(i, what), NONE);
                }
            }
            due("actAt(-1, 0)", x.actAt(-1, 0), NONE);
            due("actAt(LEAST, 2)", x.actAt(LEAST, 2), NONE);
        });
        test("22: the first and the last ACT", () -> {
            MeshSums x = full();
            int[][] acts = {{0, 0, 2}, {1, 1, 3}, {2, 3, 4}};
            for (int i = 0; i < 3; i++) {
                for (int what = 0; what <= 2; what++) {
                    due("actAt(" + i + ", " + what + ")", x.actAt(i, what), acts[i][what]);
                }
            }
        });
        test("22: BAD, what, ahead of NONE", () -> {
            for (int what : new int[] {-1, 3, LEAST, MOST}) {
                for (int i : new int[] {-1, 0, 2, 3, LEAST, MOST}) {
                    refusedByAll("actAt(" + i + ", " + what + ")", x -> x.actAt(i, what), BAD);
                }
            }
        });
        test("22: nothing FOUND", () -> {
            for (int what = 0; what <= 2; what++) {
                due("actAt(0, " + what + ")", new MeshSums().actAt(0, what), NONE);
            }
        });
        test("23: NONE, nothing was FOUND", () -> {
            MeshSums x = new MeshSums();
            due("where()", x.where(), NONE);
            x.find(1, 1, 3);
            due("where() behind NONE", x.where(), NONE);
            x.find(1, 1, 4);
            due("where() behind BAD", x.where(), NONE);
        });
        test("23: the least CELL that has the TABLE", () -> {
            for (int k = 1; k <= 3; k++) {
                for (int s = k + 1; s <= 5; s++) {
                    MeshSums x = new MeshSums();
                    due("find(" + k + ", " + s + ", 0)", x.find(k, s, 0), 0);
                    due("where()", x.where(), k);
                }
            }
            MeshSums x = new MeshSums();
            due("find(3, 5, 255)", x.find(3, 5, 255), 1);
            due("where()", x.where(), 4);
        });
        test("24: by the latest find() that was not BAD, NONE, too", () -> {
            MeshSums x = new MeshSums();
            due("met(), none yet", x.met(), 0);
            x.find(1, 0, 0);
            due("met() behind BAD", x.met(), 0);
            x.find(2, 4, 8);
            due("met() behind NONE", x.met(), 74);
            x.find(2, 4, 16);
            due("met() behind BAD", x.met(), 74);
            x.find(1, 1, 2);
            due("met() of the first state alone", x.met(), 1);
            x.mesh(2, 2, 2);
            due("met() behind mesh()", x.met(), 1);
        });
    }

    // ---- Promises 25 and 26

    private static void countAndDigest() {
        test("25: 0 .. 8, BAD", () -> {
            int[] counts = {4, 13, 3, 3, 3, 2, 3, 1, 1};
            MeshSums x = full();
            for (int what = 0; what <= 8; what++) {
                due("count(" + what + ")", x.count(what), counts[what]);
            }
            for (int what : new int[] {-1, 9, LEAST, MOST}) {
                refusedByAll("count(" + what + ")", y -> y.count(what), BAD);
            }
        });
        test("25: 0 each without a table", () -> {
            MeshSums x = full();
            x.mesh(4, 13, 3);
            for (int what = 3; what <= 8; what++) {
                due("count(" + what + ") behind mesh()", x.count(what), 0);
                due("count(" + what + ") of a new one", new MeshSums().count(what), 0);
            }
        });
        test("26: of a new object", () -> due("digest()", new MeshSums().digest(),
                hash(167, 1, 1, 1, 0, 0, 0, 0, 0, 0, 0, NONE, 0, 0)));
        test("26: it wraps around", () -> {
            MeshSums x = meshOf(8, 24, 15);
            long h = hash(167, 8, 24, 15, 0, 0, 0, 0, 0, 0);
            for (int at = 0; at < 192; at++) {
                x.write(at / 24, at % 24, at % 16);
                h = hash(h, at % 16, NONE, 0);
            }
            for (int r = 0; r < 8; r++) {
                x.input(r, 255 - r);
                h = hash(h, 255 - r);
            }
            due("digest()", x.digest(), h);
        });
        test("26: no table, nothing FOUND: nothing of them; FOUND without ACTS: nothing either", () -> {
            MeshSums x = new MeshSums();
            long before = x.digest();
            due("find(1, 1, 2)", x.find(1, 1, 2), 0);
            due("digest()", x.digest(), before);
            due("bits(3)", x.bits(3), 16);
            due("digest() tells no bits", x.digest(), before);
        });
        test("26: of the last table row, number, ACT", () -> {
            MeshSums x = tableOf(3, 4, 1, 2, 2, 1);
            x.number(0, 0, 1);
            x.number(1, 1, -1);
            x.stick(0, 0, 0);
            x.map();
            x.find(2, 3, 1);
            long h = hash(167, 3, 4, 1, 1, 2, 2, 1, 0, 0, 0, 0, 0);
            for (int at = 1; at < 12; at++) {
                h = hash(h, 0, NONE, 0);
            }
            due("digest()", x.digest(), hash(h, 0, 0, 0, 1, 1, 0, 0, 0, -1, 0, 1, 2));
        });
        test("26: it changes nothing", () -> {
            for (Maker maker : List.<Maker>of(MeshSums::new, EdgeTest::bare, EdgeTest::full)) {
                MeshSums x = maker.make();
                due("digest() again", x.digest(), x.digest());
                due("1 if all is as it was", allSeen(x).equals(allSeen(maker.make())) ? 1 : 0, 1);
            }
        });
        test("512 calls: the last one is answered as the first", () -> {
            MeshSums x = new MeshSums();
            int[] answers = new int[510];
            for (int call = 0; call < 510; call++) {
                answers[call] = x.find(2, 5, 6);
            }
            due("1 if all are 5", Arrays.stream(answers).allMatch(a -> a == 5) ? 1 : 0, 1);
            due("mesh(8, 24, 15)", x.mesh(8, 24, 15), 1);
            due("find(2, 4, 8)", x.find(2, 4, 8), NONE);
        });
    }

    public static void main(String[] args) {
        newObject();
        mesh();
        write();
        stick();
        cell();
        inputAndBits();
        sum();
        table();
        number();
        lay();
        product();
        dueAndEnough();
        map();
        mapped();
        sealAndLook();
        fade();
        pulse();
        find();
        found();
        countAndDigest();
        System.out.println(wrong == 0 ? "all " + asked + " answers are as due" : wrong + " answers are not as due");
        if (wrong != 0) {
            System.exit(1);
        }
    }
}
