/** The first and last numbers that each promise takes, and what it does at its edges. */
public final class PromiseBoundsTest {
    private static final Class<IllegalStateException> CUT = IllegalStateException.class;
    private static final Class<IndexOutOfBoundsException> FULL = IndexOutOfBoundsException.class;

    private static void corners() {
        for (int[] x : new int[][] {{0, 0}, {0, 25}, {79, 0}, {79, 25}}) {
            Bench b = new Bench("a corner of the sheet");
            b.tape("7");
            b.due("set", () -> b.grid.set(x[0], x[1]), 1);
            b.due("kind", () -> b.grid.kind(x[0], x[1]), 1);
            b.due("value", () -> b.grid.value(x[0], x[1]), 70000);
            b.due("show", () -> b.grid.show(x[0], x[1], false), 1);
            b.due("show", () -> b.grid.show(x[0], x[1], true), 1);
            b.due("copy to itself", () -> b.grid.copy(x[0], x[1], 1, 1, x[0], x[1]), 1);
            b.due("copy to the opposite", () -> b.grid.copy(x[0], x[1], 1, 1, 79 - x[0], 25 - x[1]), 2);
            b.due("clear", () -> b.grid.clear(x[0], x[1], 1, 1), 1);
            b.tape("=8");
            b.due("area", () -> b.grid.area(x[0], x[1], 1, 1), 2);
            b.due("value", () -> b.grid.value(x[0], x[1]), 80000);
        }
    }

    private static void sizes() {
        for (int[] x : new int[][] {{0, 0, 80, 26}, {0, 0, 1, 26}, {0, 0, 80, 1}, {79, 0, 1, 26}, {0, 25, 80, 1}, {79, 25, 1, 1}, {1, 1, 79, 25}}) {
            int all = x[2] * x[3];
            Bench b = new Bench("as far as the sheet goes");
            b.tape("=7");
            b.due("area", () -> b.grid.area(x[0], x[1], x[2], x[3]), all);
            b.due("the first", () -> b.grid.value(x[0], x[1]), 70000);
            b.due("the last", () -> b.grid.value(x[0] + x[2] - 1, x[1] + x[3] - 1), 70000);
            b.due("copy to itself", () -> b.grid.copy(x[0], x[1], x[2], x[3], x[0], x[1]), all);
            b.due("one formula", () -> b.grid.count(4), 1);
            b.tape("=8");
            b.due("area over it", () -> b.grid.area(x[0], x[1], x[2], x[3]), all);
            b.due("clear", () -> b.grid.clear(x[0], x[1], x[2], x[3]), 0);
            b.due("clear of nothing", () -> b.grid.clear(x[0], x[1], x[2], x[3]), 0);
            b.due("copy of nothing", () -> b.grid.copy(x[0], x[1], x[2], x[3], 80 - x[2], 26 - x[3]), 0);
        }
    }

    private static void fullSheet() {
        Bench b = new Bench("a full sheet");
        b.with("A1", "=ROWS($A$80:$A$80)");
        for (int k = 1; k < 80; k *= 2) {
            int h = Math.min(k, 80 - k);
            int to = k;
            b.due("copy", () -> b.grid.copy(0, 0, h, 1, to, 0), k + h);
        }
        for (int k = 1; k < 26; k *= 2) {
            int w = Math.min(k, 26 - k);
            int to = k;
            b.due("copy", () -> b.grid.copy(0, 0, 80, w, 0, to), 80 * (k + w));
        }
        b.due("cells", () -> b.grid.count(2), 2080);
        b.dueValue("Z80", "N:1");
        b.dueValue("A80", "E:#CIRC!");
        b.due("set", b.put("A80", "5"), "2080");
        b.due("all others hang on it", () -> b.grid.count(4), 2079);
        b.due("copy of all to itself", () -> b.grid.copy(0, 0, 80, 26, 0, 0), 2080);
        b.dueThrown("no room for a row", () -> b.grid.insert(false, 0, 1), FULL);
        b.dueThrown("no room for a column", () -> b.grid.insert(true, 25, 1), FULL);
        b.due("an area over all", b.area("A1", 80, 26, "=3"), "2080");
        b.due("one formula", () -> b.grid.count(4), 1);
        b.due("all is taken out", () -> b.grid.remove(true, 0, 26), 0);
        b.due("none is left", () -> b.grid.count(4), 0);
    }

    private static void linesOfAnEmptySheet() {
        for (int[] x : new int[][] {{0, 1}, {0, 80}, {79, 1}, {40, 40}}) {
            Bench b = new Bench("rows");
            b.due("insert", () -> b.grid.insert(false, x[0], x[1]), 0);
            b.due("remove", () -> b.grid.remove(false, x[0], x[1]), 0);
        }
        for (int[] x : new int[][] {{0, 1}, {0, 26}, {25, 1}, {13, 13}}) {
            Bench b = new Bench("columns");
            b.due("insert", () -> b.grid.insert(true, x[0], x[1]), 0);
            b.due("remove", () -> b.grid.remove(true, x[0], x[1]), 0);
        }
    }

    /** Where rows and columns have been put in there is nothing, and so where the last ones have come back from. */
    private static void nothingIsLeftBehind() {
        for (int columns = 0; columns < 2; columns++) {
            boolean across = columns == 1;
            Bench b = new Bench("what moved leaves nothing behind");
            b.with("B2", "=1+1", "C3", "x");
            b.area("D4", 2, 2, "={1,2;3,4}");
            b.due("insert", () -> b.grid.insert(across, 1, 5), 6);
            String[] old = {"B2", "C3", "D4", "E5"};
            for (String cell : old) {
                b.dueContent(cell, "");
                b.dueValue(cell, "0:");
            }
            int r = across ? 1 : 6;
            int c = across ? 6 : 1;
            b.dueContent(Bench.cell(r, c), "=1+1");
            b.due("clear of where they were", () -> b.grid.clear(1, 1, across ? 79 : 5, across ? 5 : 25), 6);
            b.due("all are there", () -> b.grid.count(2), 6);
            b.with("B2", "7");
            b.dueValue(Bench.cell(r, c), "N:2");
            b.put("B2", "");
            b.due("remove", () -> b.grid.remove(across, 1, 5), 6);
            b.dueContent(Bench.cell(r, c), "");
            b.dueContent(across ? "J5" : "E10", "");
            b.dueValue(across ? "J5" : "E10", "0:");
            b.due("set where the area was", b.put(across ? "J5" : "E10", "8"), "7");
            b.dueContent("B2", "=1+1");
            b.dueContent("C3", "x");
            b.dueValue("E5", "N:4");
        }
    }

    /** All that is there would go. */
    private static void linesOfOneCell() {
        Bench b = new Bench("one cell");
        b.with("A1", "1");
        b.dueThrown("as many rows as there are", () -> b.grid.insert(false, 0, 80), FULL);
        b.dueThrown("as many columns as there are", () -> b.grid.insert(true, 0, 26), FULL);
        b.due("one row less", () -> b.grid.insert(false, 0, 79), 1);
        b.due("one column less", () -> b.grid.insert(true, 0, 25), 1);
        b.dueContent("Z80", "1");
        b.dueThrown("no further", () -> b.grid.insert(false, 79, 1), FULL);
        b.dueThrown("no further", () -> b.grid.insert(true, 25, 1), FULL);
        b.due("back", () -> b.grid.remove(false, 0, 79), 1);
        b.due("back", () -> b.grid.remove(true, 0, 25), 1);
        b.dueContent("A1", "1");
        b.due("all rows", () -> b.grid.remove(false, 0, 80), 0);
    }

    /** Rows 3 to 5 or columns C to E: before its first line it moves, behind its last it stays, between it would be cut. */
    private static void linesAndAreas() {
        for (int k = 0; k <= 7; k++) {
            for (int columns = 0; columns < 2; columns++) {
                int at = k;
                boolean across = columns == 1;
                Bench b = new Bench("insert before " + k);
                b.area("C3", 3, 3, "={1,2,3;4,5,6;7,8,9}");
                if (k == 3 || k == 4) {
                    b.dueThrown("within", () -> b.grid.insert(across, at, 2), CUT);
                    b.dueValue("E5", "N:9");
                    continue;
                }
                b.due("without", () -> b.grid.insert(across, at, 2), 9);
                int moved = k <= 2 ? 2 : 0;
                b.dueValue(Bench.cell(2 + (across ? 0 : moved), 2 + (across ? moved : 0)), "N:1");
                b.dueValue(Bench.cell(4 + (across ? 0 : moved), 4 + (across ? moved : 0)), "N:9");
                b.dueThrown("it is still one", () -> b.grid.clear(4, 4, 1, 1), CUT);
            }
        }
        for (int k = 0; k <= 6; k++) {
            for (int n = 1; n <= 7; n++) {
                int at = k;
                int many = n;
                boolean apart = k + n <= 2 || k > 4;
                boolean whole = k <= 2 && k + n >= 5;
                for (int columns = 0; columns < 2; columns++) {
                    boolean across = columns == 1;
                    Bench b = new Bench("remove " + n + " from " + k);
                    b.area("C3", 3, 3, "={1,2,3;4,5,6;7,8,9}");
                    if (!apart && !whole) {
                        b.dueThrown("a part", () -> b.grid.remove(across, at, many), CUT);
                        b.dueValue("E5", "N:9");
                        continue;
                    }
                    b.due("all or nothing of it", () -> b.grid.remove(across, at, many), whole ? 0 : 9);
                    b.due("what is left is worked out", () -> b.grid.count(4), whole ? 0 : 1);
                    int back = apart && k < 2 ? n : 0;
                    if (!whole) {
                        b.dueValue(Bench.cell(4 - (across ? 0 : back), 4 - (across ? back : 0)), "N:9");
                    }
                }
            }
        }
    }

    private static void wordsOfTheResult() {
        Bench b = new Bench("word");
        String formula = "=1" + "+1".repeat(124);
        b.with("A1", formula);
        b.due("show", () -> b.grid.show(0, 0, true), 250);
        b.due("count", () -> b.grid.count(1), 250);
        b.due("the first", () -> b.grid.word(0), 0x3d312b312b312b31L);
        b.due("the last that is full", () -> b.grid.word(242), 0x2b312b312b312b31L);
        b.due("one zero behind", () -> b.grid.word(243), 0x312b312b312b3100L);
        b.due("the last byte", () -> b.grid.word(249), 0x3100000000000000L);
        b.dueThrown("behind it", () -> b.grid.word(250), FULL);
        b.dueThrown("before it", () -> b.grid.word(-1), FULL);
        b.due("a shorter one", () -> b.grid.show(0, 0, false), 3);
        b.due("nothing is left of the longer one", () -> b.grid.word(0), 0x3132350000000000L);
        b.dueThrown("behind it", () -> b.grid.word(3), FULL);
        b.with("A2", "x".repeat(60), "A3", "'", "A4", "'1");
        b.due("the longest text", () -> b.grid.show(1, 0, false), 60);
        b.due("its last bytes", () -> b.grid.word(52), 0x7878787878787878L);
        b.due("an empty text", () -> b.grid.show(2, 0, false), 0);
        b.dueThrown("has no byte", () -> b.grid.word(0), FULL);
        b.due("its content", () -> b.grid.show(2, 0, true), 1);
        b.due("a text like a number", () -> b.grid.show(3, 0, false), 1);
        b.due("its content", () -> b.grid.show(3, 0, true), 2);
        b.due("its bytes", () -> b.grid.word(0), 0x2731000000000000L);
        b.grid.clear(0, 0, 80, 26);
        b.due("edits leave the result", () -> b.grid.word(1), 0x3100000000000000L);
    }

    /** Only what reads the tape takes it. */
    private static void tapeStays() {
        Bench b = new Bench("the tape");
        b.with("A1", "1").tape("=A1+1");
        b.grid.clear(5, 5, 1, 1);
        b.grid.copy(0, 0, 1, 1, 3, 3);
        b.grid.insert(false, 10, 1);
        b.grid.remove(false, 10, 1);
        b.grid.kind(0, 0);
        b.grid.value(0, 0);
        b.grid.show(0, 0, true);
        b.grid.word(0);
        b.due("it is as it was", () -> b.grid.count(0), 5);
        b.due("area", () -> b.grid.area(1, 0, 1, 1), 3);
        b.due("it is read", () -> b.grid.count(0), 0);
        b.dueContent("A2", "=A1+1");
        b.due("an empty tape is nothing", () -> b.grid.set(1, 0), 2);
        b.tape("K=1");
        b.due("name", () -> b.grid.name(), 1);
        b.due("it is read", () -> b.grid.count(0), 0);
        b.grid.feed(0x41420000, 0, 0, 0, 0);
        b.due("only the first bytes", () -> b.grid.end(2), 2);
        b.due("more behind them", () -> b.grid.feed(0x43444546, 0x20202020, 0x20202020, 0x20202020, 0x2020207e), 22);
        b.due("set", () -> b.grid.set(0, 0), 2);
        b.dueContent("A1", "ABCDEF" + " ".repeat(15) + "~");
    }

    private static void workedOut() {
        Bench b = new Bench("how many were worked out");
        b.with("A1", "1", "A2", "=A1", "A3", "=A2", "B1", "=A3+K", "C1", "=L", "D1", "7");
        b.name("L=K+A1");
        b.due("hangs on the new name", () -> b.grid.count(4), 1);
        b.name("K=2");
        b.due("by a name of a name, too", () -> b.grid.count(4), 2);
        b.name("M=A1");
        b.due("none hangs on it", () -> b.grid.count(4), 0);
        b.with("A1", "1");
        b.due("by names, too", () -> b.grid.count(4), 4);
        b.with("A2", "=A1");
        b.due("itself, and what hangs on it", () -> b.grid.count(4), 3);
        b.put("A2", "");
        b.due("it is gone", () -> b.grid.count(4), 2);
        b.grid.clear(0, 0, 80, 26);
        b.due("none is left", () -> b.grid.count(4), 0);
        b.with("A1", "1", "A2", "=A1", "A3", "=A2");
        b.grid.copy(1, 0, 1, 1, 1, 1);
        b.due("just the copy", () -> b.grid.count(4), 1);
        b.grid.copy(0, 0, 1, 1, 0, 0);
        b.due("a cell copied to itself", () -> b.grid.count(4), 2);
        b.area("D1", 2, 2, "=A3");
        b.due("an area is one", () -> b.grid.count(4), 1);
        b.with("A1", "4");
        b.due("and once alone", () -> b.grid.count(4), 3);
        b.with("E5", "=D1+E2");
        b.area("D1", 2, 2, "=1");
        b.due("with what hangs on two of its cells", () -> b.grid.count(4), 2);
        b.grid.insert(true, 20, 1);
        b.due("all", () -> b.grid.count(4), 5);
        b.grid.remove(true, 20, 1);
        b.due("all", () -> b.grid.count(4), 5);
        b.dueThrown("refused", () -> b.grid.clear(0, 3, 1, 1), CUT);
        b.due("as it was", () -> b.grid.count(4), 5);
    }

    private static void copies() {
        Bench b = new Bench("copy");
        b.with("A1", "1", "B2", "=A1", "C3", "x");
        b.due("nothing comes over something", () -> b.grid.copy(10, 10, 1, 1, 1, 1), 2);
        b.dueContent("B2", "");
        b.due("as it was where both overlap", () -> b.grid.copy(0, 0, 3, 3, 1, 1), 3);
        b.dueContent("A1", "1");
        b.dueContent("B2", "1");
        b.dueContent("C3", "");
        b.dueContent("D4", "x");
        b.with("B1", "2", "B3", "=B2+$B$1", "C2", "=\"a\"");
        b.due("up and aside", () -> b.grid.copy(1, 1, 3, 3, 0, 2), 9);
        b.dueContent("C1", "1");
        b.dueContent("C2", "=C1+$B$1");
        b.dueContent("D1", "=\"a\"");
        b.dueContent("E3", "x");
        b.dueContent("B3", "=B2+$B$1");
        Bench a = new Bench("copy of areas that overlap in turn");
        a.area("A1", 1, 2, "={1,2}");
        a.area("A2", 1, 2, "={3,4}");
        a.area("A3", 1, 2, "={5,6}");
        a.due("down", () -> a.grid.copy(0, 0, 3, 2, 1, 0), 8);
        a.dueValue("B1", "N:2");
        a.dueValue("B2", "N:2");
        a.dueValue("B3", "N:4");
        a.dueValue("B4", "N:6");
        a.due("up", () -> a.grid.copy(1, 0, 3, 2, 0, 0), 8);
        a.dueValue("B1", "N:2");
        a.dueValue("B3", "N:6");
        a.dueThrown("they are areas", () -> a.grid.clear(3, 1, 1, 1), CUT);
    }

    public static void main(String[] args) {
        corners();
        sizes();
        fullSheet();
        linesOfAnEmptySheet();
        nothingIsLeftBehind();
        linesOfOneCell();
        linesAndAreas();
        wordsOfTheResult();
        tapeStays();
        workedOut();
        copies();
        Bench.end("PromiseBoundsTest");
    }
}
