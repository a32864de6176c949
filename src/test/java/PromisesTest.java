/** The fifteen promises, one by one: ordinary inputs, the edges that the document names, wrong inputs. */
public final class PromisesTest {
    private static final Class<IllegalArgumentException> RANGE = IllegalArgumentException.class;
    private static final Class<IllegalStateException> STATE = IllegalStateException.class;
    private static final Class<IndexOutOfBoundsException> ROOM = IndexOutOfBoundsException.class;
    private static final String BROKEN = "UnsupportedOperationException";
    private static final String CUT = "IllegalStateException";
    private static final String FULL = "IndexOutOfBoundsException";

    private static String times(String s, int n) {
        return s.repeat(n);
    }

    private static void newObject() {
        for (int r = 0; r < 80; r++) {
            Bench b = new Bench("1 a new object");
            for (int c = 0; c < 26; c++) {
                int row = r;
                int column = c;
                b.due("kind", () -> b.grid.kind(row, column), 0);
                b.due("value", () -> b.grid.value(row, column), 0);
                b.due("show", () -> b.grid.show(row, column, true), 0);
            }
        }
        Bench b = new Bench("1 a new object");
        b.due("tape", () -> b.grid.count(0), 0);
        b.due("result", () -> b.grid.count(1), 0);
        b.due("cells", () -> b.grid.count(2), 0);
        b.due("place", () -> b.grid.count(3), -1);
        b.due("worked out", () -> b.grid.count(4), 0);
        b.dueThrown("word", () -> b.grid.word(0), ROOM);
        b.with("A1", "=K");
        b.dueValue("A1", "E:#NAME?");
    }

    private static void feed() {
        Bench b = new Bench("2 feed");
        b.due("first", () -> b.grid.feed(0x61626364, 0x65666768, 0x696a6b6c, 0x6d6e6f70, 0x71727374), 20);
        b.due("length", () -> b.grid.count(0), 20);
        b.due("second", () -> b.grid.feed(0x20202020, 0x7e7e7e7e, 0x30313233, 0x20202020, 0x41424344), 40);
        b.due("set", () -> b.grid.set(0, 0), 1);
        b.dueContent("A1", "abcdefghijklmnopqrst    ~~~~0123    ABCD");
        for (int k = 1; k <= 100; k++) {
            int length = 20 * k;
            b.due("feed", () -> b.grid.feed(-1, 0, 0, 0, 0), length);
        }
        b.dueThrown("more than 2000", () -> b.grid.feed(1, 2, 3, 4, 5), ROOM);
        b.due("nothing changed", () -> b.grid.count(0), 2000);
        b.due("end", () -> b.grid.end(1981), 1981);
        b.dueThrown("20 more than 1980", () -> b.grid.feed(1, 2, 3, 4, 5), ROOM);
        b.due("end", () -> b.grid.end(1980), 1980);
        b.due("just 2000", () -> b.grid.feed(1, 2, 3, 4, 5), 2000);
    }

    private static void end() {
        Bench b = new Bench("3 end");
        b.dueThrown("of an empty tape", () -> b.grid.end(1), RANGE);
        b.due("of an empty tape", () -> b.grid.end(0), 0);
        b.grid.feed(0x31323334, 0x35363738, 0, 0, 0);
        b.dueThrown("below 0", () -> b.grid.end(-1), RANGE);
        b.dueThrown("beyond", () -> b.grid.end(21), RANGE);
        b.due("all", () -> b.grid.end(20), 20);
        b.due("some", () -> b.grid.end(3), 3);
        b.dueThrown("more again", () -> b.grid.end(4), RANGE);
        b.due("set", () -> b.grid.set(0, 0), 1);
        b.dueValue("A1", "N:123");
    }

    private static void set() {
        String[] kept = {"1", "-1", "12.5", "TRUE", "FALSE", "abc", "a b", " 12", "12 ", "+5", "1.", ".5", "1.23456",
            "123456789012", "90000000001", "--5", "1e5", "TRUE ", "true", "#REF!", " =1", "\"", "-", "90000000000",
            "-90000000000", "A1", times("x", 60)};
        for (String s : kept) {
            Bench b = new Bench("4 set");
            b.due("set " + s, b.put("A1", s), "1");
            b.dueContent("A1", s);
        }
        String[][] other = {{"007", "7"}, {"-0", "0"}, {"1.50", "1.5"}, {"00.10", "0.1"}, {"'abc", "abc"},
            {"''abc", "''abc"}, {"'12", "'12"}, {"'TRUE", "'TRUE"}, {"'=1", "'=1"}, {"'", "'"}, {"'-5", "'-5"},
            {"'-", "-"}, {"' 5", " 5"}, {"'007", "'007"}, {"'" + times("y", 60), times("y", 60)},
            {"= 1 + 2 ", "=1+2"}, {"=\" a \" & 1.50", "=\" a \"&1.5"}, {"= ( A1 : $B$2 )", "=(A1:$B$2)"}, {"=00.50", "=0.5"}};
        for (String[] o : other) {
            Bench b = new Bench("4 set").with("A1", "1");
            b.due("set " + o[0], b.put("B1", o[0]), "2");
            b.dueContent("B1", o[1]);
        }
        Bench b = new Bench("4 set").with("A1", "1", "B1", "2");
        b.due("nothing", b.put("B1", ""), "1");
        b.dueContent("B1", "");
        b.dueValue("B1", "0:");
        b.due("another byte", b.put("B1", "ab\u0007"), BROKEN);
        b.due("its place", () -> b.grid.count(3), 2);
        b.due("tape is empty", () -> b.grid.count(0), 0);
        b.due("another byte behind '", b.put("B1", "'\u007f"), BROKEN);
        b.due("its place", () -> b.grid.count(3), 1);
        b.due("61 bytes", b.put("B1", times("x", 61)), FULL);
        b.due("no place", () -> b.grid.count(3), -1);
        b.due("61 bytes behind '", b.put("B1", "'" + times("x", 61)), FULL);
        b.due("250 bytes", b.put("B1", "=1" + times("+1", 124) + " "), "2");
        b.dueValue("B1", "N:125");
        b.due("251 bytes", b.put("B1", "=10" + times("+1", 124)), FULL);
        b.dueValue("B1", "N:125");
        b.due("many blanks", b.put("B1", "=1" + times(" ", 1900) + "+1"), "2");
        b.dueContent("B1", "=1+1");
        b.tape("5");
        for (int[] cell : new int[][] {{-1, 0}, {80, 0}, {0, -1}, {0, 26}, {Integer.MIN_VALUE, 0}, {0, Integer.MAX_VALUE}}) {
            b.dueThrown("out of range", () -> b.grid.set(cell[0], cell[1]), RANGE);
        }
        b.due("tape stays", () -> b.grid.count(0), 1);
        b.due("the last cell", () -> b.grid.set(79, 25), 3);
        b.dueValue("Z80", "N:5");
        b.area("D1", 2, 2, "=1");
        b.due("part of an area", b.put("D1", "1"), CUT);
        b.due("part of an area, nothing", b.put("E2", ""), CUT);
        b.due("syntax goes before", b.put("D1", "=1+"), BROKEN);
        b.due("state goes before room", b.put("D1", times("x", 61)), CUT);
        b.area("G1", 1, 1, "=1");
        b.due("all of an area", b.put("G1", "2"), "8");
    }

    private static void area() {
        Bench b = new Bench("5 area");
        b.with("A1", "1", "B1", "2");
        b.due("area", b.area("A1", 2, 3, "= {1,2;3,4}"), "6");
        b.dueContent("A1", "={1,2;3,4}");
        b.dueContent("C2", "={1,2;3,4}");
        b.dueValue("A1", "N:1");
        b.dueValue("B2", "N:4");
        b.dueValue("C1", "E:#N/A");
        b.due("one is one formula", () -> b.grid.count(4), 1);
        b.due("a row counts for each", b.area("A4", 3, 2, "={1,2}"), "12");
        b.dueValue("B6", "N:2");
        b.due("a column counts for each", b.area("A4", 3, 2, "={1;2}"), "12");
        b.dueValue("B5", "N:2");
        b.dueValue("B6", "E:#N/A");
        b.due("no array for each", b.area("A4", 3, 2, "=7"), "12");
        b.dueValue("B6", "N:7");
        b.due("one of one for each", b.area("A4", 3, 2, "={8}"), "12");
        b.dueValue("B6", "N:8");
        b.due("a part", b.area("A5", 3, 2, "=7"), CUT);
        b.due("no formula", b.area("F1", 1, 1, "7"), BROKEN);
        b.due("its place", () -> b.grid.count(3), 0);
        b.due("no tape", b.area("F1", 1, 1, ""), BROKEN);
        b.due("its place", () -> b.grid.count(3), 0);
        b.due("250 bytes", b.area("F1", 1, 1, "=1" + times("+1", 124)), "13");
        b.due("251 bytes", b.area("F1", 1, 1, "=10" + times("+1", 124)), FULL);
        b.due("hangs on itself", b.area("H1", 2, 1, "=H2"), "15");
        b.dueValue("H1", "E:#CIRC!");
        b.dueValue("H2", "E:#CIRC!");
        b.tape("=1");
        int[][] bad = {{0, 0, 0, 1}, {0, 0, 1, 0}, {0, 0, -1, 1}, {79, 0, 2, 1}, {0, 25, 1, 2}, {-1, 0, 1, 1}, {0, 0, 81, 1},
            {1, 1, Integer.MAX_VALUE, 1}, {1, 1, 1, Integer.MAX_VALUE}};
        for (int[] x : bad) {
            b.dueThrown("out of range", () -> b.grid.area(x[0], x[1], x[2], x[3]), RANGE);
        }
        b.due("tape stays", () -> b.grid.count(0), 2);
        b.grid.clear(0, 0, 80, 26);
        b.due("all the sheet", () -> b.grid.area(0, 0, 80, 26), 2080);
        b.dueValue("Z80", "N:1");
    }

    private static void clear() {
        Bench b = new Bench("6 clear");
        b.with("A1", "1", "B1", "x", "A2", "=A1", "C3", "TRUE", "E5", "=A2");
        b.due("clear", () -> b.grid.clear(0, 0, 2, 2), 2);
        b.due("worked out", () -> b.grid.count(4), 1);
        b.dueValue("A1", "0:");
        b.dueContent("A2", "");
        b.dueValue("E5", "0:");
        b.area("A1", 2, 2, "=1");
        b.dueThrown("a part", () -> b.grid.clear(0, 0, 1, 2), STATE);
        b.dueThrown("a part", () -> b.grid.clear(1, 1, 5, 5), STATE);
        b.due("all of it", () -> b.grid.clear(0, 0, 2, 2), 2);
        b.dueThrown("no rows", () -> b.grid.clear(0, 0, 0, 1), RANGE);
        b.dueThrown("no columns", () -> b.grid.clear(0, 0, 1, 0), RANGE);
        b.dueThrown("beyond", () -> b.grid.clear(0, 0, 81, 1), RANGE);
        b.dueThrown("beyond", () -> b.grid.clear(0, 1, 1, 26), RANGE);
        b.due("everything", () -> b.grid.clear(0, 0, 80, 26), 0);
    }

    private static void copy() {
        Bench b = new Bench("7 copy");
        b.with("A1", "5", "B1", "=A1*$A$1+A$1+$A1", "C1", "=SUM(B1:A2)", "D1", "'12");
        b.due("copy", () -> b.grid.copy(0, 0, 1, 4, 1, 1), 8);
        b.dueContent("C2", "=B2*$A$1+B$1+$A2");
        b.dueContent("D2", "=SUM(B2:C3)");
        b.dueContent("E2", "'12");
        b.dueContent("C1", "=SUM(B1:A2)");
        b.with("H3", "=H1+H3:H1+A2:B3+A$1:A2+$Z9:A9+\"A1\"+A1_+#N/A+LEN(A1)");
        b.due("up", () -> b.grid.copy(2, 7, 1, 1, 1, 6), 10);
        b.dueContent("G2", "=#REF!+#REF!+#REF!+#REF!+#REF!+\"A1\"+A1_+#N/A+LEN(#REF!)");
        b.due("down", () -> b.grid.copy(2, 7, 1, 1, 3, 7), 11);
        b.dueContent("H4", "=H2+H2:H4+A3:B4+A$1:A3+A10:$Z10+\"A1\"+A1_+#N/A+LEN(A2)");

        Bench o = new Bench("7 copy over itself");
        o.with("A1", "1", "A2", "=A1+1", "A3", "x", "A5", "z");
        o.due("down", () -> o.grid.copy(0, 0, 4, 1, 1, 0), 4);
        o.dueContent("A2", "1");
        o.dueContent("A3", "=A2+1");
        o.dueContent("A4", "x");
        o.dueContent("A5", "");
        o.due("up", () -> o.grid.copy(1, 0, 3, 1, 0, 0), 4);
        o.dueContent("A1", "1");
        o.dueContent("A2", "=A1+1");
        o.dueContent("A3", "x");
        o.dueContent("A4", "x");
        o.due("aside", () -> o.grid.copy(0, 0, 4, 2, 0, 1), 8);
        o.dueContent("B2", "=B1+1");
        o.dueContent("A2", "=A1+1");
        o.with("D1", "=B2:A1");
        o.due("to where it is", () -> o.grid.copy(0, 3, 1, 1, 0, 3), 9);
        o.dueContent("D1", "=A1:B2");

        Bench a = new Bench("7 copy of areas");
        a.area("A1", 2, 2, "=D1:E2*$G$1");
        a.with("G1", "2", "D1", "1", "E2", "4", "D4", "7");
        a.dueThrown("a part", () -> a.grid.copy(0, 0, 1, 2, 5, 5), STATE);
        a.dueThrown("onto a part", () -> a.grid.copy(10, 10, 1, 1, 1, 1), STATE);
        a.dueThrown("onto a part of itself", () -> a.grid.copy(0, 0, 2, 2, 1, 0), STATE);
        a.due("an area", () -> a.grid.copy(0, 0, 2, 2, 3, 0), 12);
        a.dueContent("B5", "=D4:E5*$G$1");
        a.dueValue("A4", "N:14");
        a.dueThrown("is one", () -> a.grid.clear(3, 0, 1, 1), STATE);
        a.due("within what is copied and what it comes to", () -> a.grid.copy(2, 0, 5, 2, 3, 0), 12);
        a.dueContent("A4", "");
        a.dueContent("B6", "=D5:E6*$G$1");
        a.dueThrown("is one", () -> a.grid.clear(4, 1, 1, 1), STATE);

        Bench w = new Bench("7 copy, wrong");
        w.with("A1", "=" + times("B1+", 82) + "B1");
        w.dueThrown("no room", () -> w.grid.copy(0, 0, 1, 1, 10, 0), ROOM);
        w.dueThrown("no room", () -> w.grid.copy(0, 0, 2, 1, 0, 25), ROOM);
        w.dueContent("A11", "");
        int[][] bad = {{-1, 0, 1, 1, 0, 0}, {0, 0, 1, 1, 80, 0}, {0, 0, 2, 1, 79, 0}, {0, 0, 1, 2, 0, 25}, {79, 0, 2, 1, 0, 0},
            {0, 0, 0, 1, 0, 0}, {0, 0, 1, 0, 0, 0}, {0, 0, 1, 1, 0, -1}, {0, 0, Integer.MAX_VALUE, 1, 1, 1}};
        for (int[] x : bad) {
            w.dueThrown("out of range", () -> w.grid.copy(x[0], x[1], x[2], x[3], x[4], x[5]), RANGE);
        }
    }

    private static void insert() {
        Bench b = new Bench("8 insert");
        b.with("A1", "1", "A2", "2", "A3", "=A2+$A$1", "B3", "=SUM(A1:A2)", "C1", "=A3:A1", "D1", "=A80", "E1", "=A78:A80",
                "F1", "=A79:A80", "G1", "=Z1");
        b.name("T=A1:A2");
        b.due("rows", () -> b.grid.insert(false, 1, 2), 9);
        b.due("worked out", () -> b.grid.count(4), 7);
        b.dueContent("A4", "2");
        b.dueContent("A5", "=A4+$A$1");
        b.dueContent("B5", "=SUM(A1:A4)");
        b.dueContent("C1", "=A1:A5");
        b.dueContent("D1", "=#REF!");
        b.dueContent("E1", "=A80:A80");
        b.dueContent("F1", "=#REF!");
        b.dueContent("A2", "");
        b.dueValue("B5", "N:3");
        b.with("H1", "=SUM(T)");
        b.dueValue("H1", "N:3");
        b.due("columns", () -> b.grid.insert(true, 0, 1), 10);
        b.dueContent("B5", "=B4+$B$1");
        b.dueContent("H1", "=#REF!");
        b.dueValue("I1", "N:3");
        b.with("A2", "=B70:B80");
        b.due("at the last", () -> b.grid.insert(false, 79, 1), 11);
        b.dueContent("A2", "=B70:B79");

        Bench a = new Bench("8 insert, areas");
        a.area("B2", 2, 2, "=A1:B1");
        a.dueThrown("in its midst", () -> a.grid.insert(false, 2, 1), STATE);
        a.dueThrown("in its midst", () -> a.grid.insert(true, 2, 1), STATE);
        a.dueThrown("before there is no room", () -> a.grid.insert(false, 2, 78), STATE);
        a.due("before it", () -> a.grid.insert(false, 1, 1), 4);
        a.dueContent("C4", "=A1:B1");
        a.dueThrown("is one", () -> a.grid.clear(2, 1, 1, 1), STATE);
        a.due("behind it", () -> a.grid.insert(false, 4, 1), 4);
        a.due("as far as it goes", () -> a.grid.insert(false, 0, 76), 4);
        a.dueContent("B80", "=A77:B77");
        a.dueThrown("no room", () -> a.grid.insert(false, 0, 1), ROOM);
        a.dueThrown("no room", () -> a.grid.insert(true, 0, 24), ROOM);

        Bench w = new Bench("8 insert, wrong");
        w.with("A9", "=" + times("A9+", 82) + "A9", "Z1", "1");
        w.dueThrown("250 bytes", () -> w.grid.insert(false, 0, 1), ROOM);
        w.dueThrown("content", () -> w.grid.insert(true, 25, 1), ROOM);
        int[][] bad = {{-1, 1}, {0, 0}, {0, -1}, {80, 1}, {79, 2}, {0, 81}, {1, Integer.MAX_VALUE}};
        for (int[] x : bad) {
            w.dueThrown("rows", () -> w.grid.insert(false, x[0], x[1]), RANGE);
            w.dueThrown("rows", () -> w.grid.remove(false, x[0], x[1]), RANGE);
        }
        for (int[] x : new int[][] {{26, 1}, {25, 2}, {0, 27}, {-1, 2}, {3, 0}}) {
            w.dueThrown("columns", () -> w.grid.insert(true, x[0], x[1]), RANGE);
            w.dueThrown("columns", () -> w.grid.remove(true, x[0], x[1]), RANGE);
        }
        w.dueContent("Z1", "1");
        w.name("LONG=" + times("A9+", 82) + "A9");
        w.put("A9", "");
        w.dueThrown("250 bytes of a name", () -> w.grid.insert(false, 0, 1), ROOM);
    }

    private static void remove() {
        Bench b = new Bench("9 remove");
        b.with("A1", "1", "A2", "2", "A3", "3", "A5", "=A1+A2+$A$3", "B5", "=SUM(A1:A3)", "C5", "=A3:A2", "D5", "=SUM(A2:A4)",
                "E5", "=A80", "F5", "=A2:A2", "G5", "=$A1:A$2");
        b.name("T=A2");
        b.due("rows", () -> b.grid.remove(false, 1, 1), 9);
        b.due("worked out", () -> b.grid.count(4), 7);
        b.dueContent("A2", "3");
        b.dueContent("A4", "=A1+#REF!+$A$2");
        b.dueContent("B4", "=SUM(A1:A2)");
        b.dueContent("C4", "=A2:A2");
        b.dueContent("D4", "=SUM(A2:A3)");
        b.dueContent("E4", "=A79");
        b.dueContent("F4", "=#REF!");
        b.dueContent("G4", "=$A1:A$1");
        b.with("H1", "=T");
        b.dueValue("H1", "E:#REF!");
        b.due("columns", () -> b.grid.remove(true, 0, 2), 6);
        b.dueContent("A4", "=#REF!");
        b.dueContent("B4", "=SUM(#REF!)");
        b.area("A10", 2, 2, "=Z1:Z2");
        b.dueThrown("part of an area", () -> b.grid.remove(false, 10, 5), STATE);
        b.dueThrown("part of an area", () -> b.grid.remove(true, 1, 1), STATE);
        b.due("before an area", () -> b.grid.remove(true, 5, 20), 9);
        b.dueContent("A10", "=F1:F2");
        b.due("all of an area", () -> b.grid.remove(false, 9, 2), 5);
        b.due("all", () -> b.grid.remove(false, 0, 80), 0);
        b.due("worked out", () -> b.grid.count(4), 0);

        Bench w = new Bench("9 remove, no room");
        w.with("A1", "=" + times("C2+", 82) + "C2");
        w.dueThrown("250 bytes", () -> w.grid.remove(true, 2, 1), ROOM);
        w.dueContent("A1", "=" + times("C2+", 82) + "C2");
        w.due("what goes needs none", () -> w.grid.remove(true, 0, 3), 0);
    }

    private static void name() {
        Bench b = new Bench("10 name");
        b.with("A1", "2", "B1", "=K+1", "C1", "=LAMBDA(K,K)(9)", "D1", "=L", "E1", "=LET(K,1,2)");
        b.dueValue("B1", "E:#NAME?");
        b.due("a name", b.name("K=A1*10"), "1");
        b.due("worked out", () -> b.grid.count(4), 2);
        b.dueValue("B1", "N:21");
        b.dueValue("C1", "N:9");
        b.due("blanks behind the word", b.name("L  = K + 1 "), "2");
        b.dueValue("D1", "N:21");
        b.due("anew", b.name("K=5"), "2");
        b.due("worked out, by another name too", () -> b.grid.count(4), 3);
        b.dueValue("D1", "N:6");
        b.dueValue("B1", "N:6");
        String[][] bad = {{"", "0"}, {" X=1", "0"}, {"=1", "0"}, {"A1=1", "0"}, {"TRUE=1", "0"}, {"FALSE=1", "0"}, {"1=1", "0"},
            {"x=1", "0"}, {"SUM=1", "0"}, {"LAMBDA=1+", "0"}, {"X", "1"}, {"X  ", "3"}, {"X 1", "2"}, {"X=", "2"}, {"X=1+", "4"},
            {"X==1", "2"}, {"ABCDEFGHIJKLM=1", "12"}, {"X=1 2", "4"}, {"$A$1=1", "0"}, {"X(1)=2", "1"}};
        for (String[] x : bad) {
            b.due("name " + x[0], b.name(x[0]), BROKEN);
            b.due("place in " + x[0], () -> b.grid.count(3), Long.parseLong(x[1]));
            b.due("tape", () -> b.grid.count(0), 0);
        }
        b.due("12 letters", b.name("ABCDEFGHIJKL=A81"), "3");
        b.due("like a cell", b.name("A81=4"), "4");
        b.due("like a truth", b.name("TRUE_=4"), "5");
        b.with("F1", "=ABCDEFGHIJKL+TRUE_");
        b.dueValue("F1", "N:8");
        b.due("250 bytes", b.name("M1_=1" + times("+1", 124)), "6");
        b.due("251 bytes", b.name("M2_=10" + times("+1", 124)), FULL);
        for (int k = 7; k <= 20; k++) {
            b.due("more names", b.name("N_" + k + "=" + k), String.valueOf(k));
        }
        b.due("one too many", b.name("O=1"), FULL);
        b.due("one that is there", b.name("N_20=1"), "20");
        b.with("G1", "=N_20+O");
        b.dueValue("G1", "E:#NAME?");
        Bench c = new Bench("10 name, round");
        c.with("A1", "=K", "B1", "=K", "C1", "=B1");
        c.name("K=A1+1");
        c.dueValue("A1", "E:#CIRC!");
        c.dueValue("B1", "E:#CIRC!");
        c.name("K=7");
        c.dueValue("C1", "N:7");
    }

    private static void kindAndValue() {
        Bench b = new Bench("11 kind, 12 value");
        b.with("A1", "2.5", "A2", "abc", "A3", "TRUE", "A4", "=1/0", "A5", "=A9", "A6", "-0.0001", "A7", "FALSE", "A8", "'");
        long[][] due = {{1, 25000}, {2, 3}, {3, 1}, {4, 1}, {0, 0}, {1, -1}, {3, 0}, {2, 0}, {0, 0}};
        for (int k = 0; k < due.length; k++) {
            int r = k;
            b.due("kind", () -> b.grid.kind(r, 0), due[k][0]);
            b.due("value", () -> b.grid.value(r, 0), due[k][1]);
        }
        String[] signs = {"#DIV/0!", "#VALUE!", "#REF!", "#NAME?", "#NUM!", "#N/A", "#CIRC!", "#CALC!"};
        for (int e = 1; e <= 8; e++) {
            b.with("C1", "=" + signs[e - 1]);
            b.due("which error", () -> b.grid.value(0, 2), e);
            b.dueValue("C1", "E:" + signs[e - 1]);
        }
        b.with("C1", "90000000000");
        b.due("the greatest", () -> b.grid.value(0, 2), 900000000000000L);
        for (int[] cell : new int[][] {{-1, 0}, {80, 0}, {0, -1}, {0, 26}}) {
            b.dueThrown("kind", () -> b.grid.kind(cell[0], cell[1]), RANGE);
            b.dueThrown("value", () -> b.grid.value(cell[0], cell[1]), RANGE);
            b.dueThrown("show", () -> b.grid.show(cell[0], cell[1], true), RANGE);
            b.dueThrown("show", () -> b.grid.show(cell[0], cell[1], false), RANGE);
        }
    }

    private static void showAndWord() {
        Bench b = new Bench("13 show, 14 word");
        b.with("A1", "= \"a\" & 1.50", "A2", "TRUE", "A3", "12345678");
        b.due("value", () -> b.grid.show(0, 0, false), 4);
        b.due("word", () -> b.grid.word(0), 0x61312e3500000000L);
        b.due("word", () -> b.grid.word(3), 0x3500000000000000L);
        b.dueThrown("behind", () -> b.grid.word(4), ROOM);
        b.dueThrown("before", () -> b.grid.word(-1), ROOM);
        b.due("content", () -> b.grid.show(0, 0, true), 8);
        b.due("count", () -> b.grid.count(1), 8);
        b.due("word", () -> b.grid.word(0), 0x3d22612226312e35L);
        b.dueThrown("show of no cell", () -> b.grid.show(0, 26, true), RANGE);
        b.due("stays", () -> b.grid.word(7), 0x3500000000000000L);
        b.due("truth", () -> b.grid.show(1, 0, false), 4);
        b.due("word", () -> b.grid.word(0), 0x5452554500000000L);
        b.due("number", () -> b.grid.show(2, 0, true), 8);
        b.due("word", () -> b.grid.word(0), 0x3132333435363738L);
        b.due("nothing", () -> b.grid.show(5, 5, false), 0);
        b.dueThrown("none of its bytes", () -> b.grid.word(0), ROOM);
        b.with("B1", "~\u0020!");
        b.due("bytes", () -> b.grid.show(0, 1, true), 3);
        b.due("word", () -> b.grid.word(0), 0x7e20210000000000L);
        b.area("C1", 2, 2, "=1 + 1");
        b.dueContent("D2", "=1+1");
    }

    private static void count() {
        Bench b = new Bench("15 count");
        b.dueThrown("below", () -> b.grid.count(-1), RANGE);
        b.dueThrown("above", () -> b.grid.count(5), RANGE);
        b.tape("=1+");
        b.due("tape", () -> b.grid.count(0), 3);
        b.dueThrown("out of range", () -> b.grid.set(80, 0), RANGE);
        b.due("place", () -> b.grid.count(3), -1);
        b.due("broken", Bench.outcome(() -> b.grid.set(0, 0)), BROKEN);
        b.due("place", () -> b.grid.count(3), 3);
        b.dueThrown("out of range", () -> b.grid.set(80, 0), RANGE);
        b.due("place stays", () -> b.grid.count(3), 3);
        b.grid.clear(0, 0, 1, 1);
        b.due("place stays", () -> b.grid.count(3), 3);
        b.with("A1", "1");
        b.due("no place", () -> b.grid.count(3), -1);
        b.with("B1", "=A1", "C1", "=B1", "D1", "=C1", "E1", "=A1:C1", "F1", "=5");
        b.with("A1", "2");
        b.due("all that hang on it", () -> b.grid.count(4), 4);
        b.with("A1", "2");
        b.due("also if it is the same", () -> b.grid.count(4), 4);
        b.put("A1", "=1+");
        b.due("of an edit that did not throw", () -> b.grid.count(4), 4);
        b.with("C1", "=B1");
        b.due("itself and those", () -> b.grid.count(4), 3);
        b.with("H1", "x");
        b.due("nothing hangs on it", () -> b.grid.count(4), 0);
        b.due("cells", () -> b.grid.count(2), 7);
        b.grid.clear(0, 0, 1, 2);
        b.due("those that are left", () -> b.grid.count(4), 3);
        b.area("A2", 2, 2, "=F1");
        b.with("F1", "6", "D3", "=B3");
        b.with("F1", "7");
        b.due("an area is one", () -> b.grid.count(4), 2);
        b.grid.copy(0, 5, 1, 1, 0, 6);
        b.due("copy of a constant", () -> b.grid.count(4), 0);
        b.grid.copy(2, 3, 1, 1, 5, 5);
        b.due("copy of a formula", () -> b.grid.count(4), 1);
        b.grid.copy(10, 10, 1, 1, 0, 5);
        b.due("copy of nothing", () -> b.grid.count(4), 2);
        b.with("A9", "=A9", "B9", "=A9");
        b.with("A9", "1");
        b.due("round ones too", () -> b.grid.count(4), 1);
        b.dueValue("B9", "N:1");
    }

    public static void main(String[] args) {
        newObject();
        feed();
        end();
        set();
        area();
        clear();
        copy();
        insert();
        remove();
        name();
        kindAndValue();
        showAndWord();
        count();
        Bench.end("PromisesTest");
    }
}
