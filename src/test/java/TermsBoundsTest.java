import java.util.ArrayList;
import java.util.List;

/** The bounds that the document's terms name: values, contents, names, arrays of unlike size, what hangs, references. */
public final class TermsBoundsTest {
    private static final String FULL = "IndexOutOfBoundsException";
    private static final String BROKEN = "UnsupportedOperationException";

    private static void worth(String formula, String want) {
        Bench b = new Bench("value");
        b.with("J9", formula);
        b.dueValue("J9", want);
    }

    /** All elements of what a formula gives, row by row, in an area of this size. */
    private static void spread(String formula, int h, int w, String... want) {
        Bench b = new Bench(formula + " in " + h + " by " + w);
        b.due("area", b.area("B2", h, w, formula), String.valueOf(h * w));
        List<String> got = new ArrayList<>();
        for (int k = 0; k < h * w; k++) {
            got.add(b.value(Bench.cell(1 + k / w, 1 + k % w)));
        }
        b.due("elements", got.toString(), List.of(want).toString());
    }

    private static void content(String tape, String shown, String value) {
        Bench b = new Bench("content " + tape);
        b.due("set", b.put("C3", tape), tape.isEmpty() ? "0" : "1");
        b.due("no place", () -> b.grid.count(3), -1);
        b.dueContent("C3", shown);
        b.dueValue("C3", value);
    }

    private static void greatestNumber() {
        String most = "90000000000";
        worth("=" + most, "N:" + most);
        worth("=-" + most, "N:-" + most);
        worth("=89999999999.9999+0.0001", "N:" + most);
        worth("=" + most + "+0.0001", "E:#NUM!");
        worth("=-89999999999.9999-0.0001", "N:-" + most);
        worth("=-" + most + "-0.0001", "E:#NUM!");
        worth("=" + most + "-(-0.0001)", "E:#NUM!");
        worth("=300000*300000", "N:" + most);
        worth("=300000*-300000", "N:-" + most);
        worth("=300000*300000.0001", "E:#NUM!");
        worth("=-300000.0001*300000", "E:#NUM!");
        worth("=" + most + "*" + most, "E:#NUM!");
        worth("=" + most + "*-" + most, "E:#NUM!");
        worth("=" + most + "*1.0001", "E:#NUM!");
        worth("=3.1333*28723709826.7003", "N:" + most);
        worth("=-3.1333*28723709826.7003", "N:-" + most);
        worth("=1.1860*75885328836.4250", "E:#NUM!");
        worth("=1.1860*-75885328836.4250", "E:#NUM!");
        worth("=" + most + "/1", "N:" + most);
        worth("=" + most + "/0.9999", "E:#NUM!");
        worth("=9000000/0.0001", "N:" + most);
        worth("=9000000.0001/0.0001", "E:#NUM!");
        worth("=-9000000.0001/0.0001", "E:#NUM!");
        worth("=" + most + "/" + most, "N:1");
        worth("=0.0001/" + most, "N:0");
        worth("=" + most + "%", "N:900000000");
        worth("=SUM(" + most + ",0)", "N:" + most);
        worth("=SUM(" + most + ",0.0001)", "E:#NUM!");
        worth("=SUM(" + most + ",0.0001,-1)", "E:#NUM!");
        worth("=SUM(-1," + most + ",1)", "N:" + most);
        worth("=PRODUCT(300000,300000)", "N:" + most);
        worth("=PRODUCT(300000,300000,1.0001,0)", "E:#NUM!");
        worth("=ABS(-" + most + ")", "N:" + most);
        worth("=INT(-89999999999.0001)", "N:-" + most);
        worth("=ROUND(89999999999.5,0)", "N:" + most);
        worth("=ROUND(89500000000,-9)", "N:" + most);
        worth("=MOD(" + most + ",-" + most + ")", "N:0");
        worth("=MOD(-1," + most + ")", "N:89999999999");
        spread("=SEQUENCE(1,3,89999999999,1)", 1, 3, "N:89999999999", "N:" + most, "E:#NUM!");
        spread("=SEQUENCE(3,1,-89999999999,-1)", 3, 1, "N:-89999999999", "N:-" + most, "E:#NUM!");
        spread("={-90000000000,90000000000}", 1, 2, "N:-" + most, "N:" + most);
        worth("=SUMIF({1;1},1,{90000000000;0.0001})", "E:#NUM!");
        worth("=SUMIF({1;1},1,{90000000000;0})", "N:" + most);
    }

    /** Products, quotients and % go to 0.0001, halves away from 0. */
    private static void rounding() {
        worth("=0.01*0.005", "N:0.0001");
        worth("=0.01*0.0049", "N:0");
        worth("=-0.01*0.005", "N:-0.0001");
        worth("=0.01*-0.0049", "N:0");
        worth("=0.0003*0.5", "N:0.0002");
        worth("=0.0001*0.0001", "N:0");
        worth("=0.0001/2", "N:0.0001");
        worth("=0.0001/2.0001", "N:0");
        worth("=-0.0001/2", "N:-0.0001");
        worth("=0.0001/-2.0001", "N:0");
        worth("=1/3", "N:0.3333");
        worth("=-2/3", "N:-0.6667");
        worth("=0.005%", "N:0.0001");
        worth("=0.0049%", "N:0");
        worth("=-0.005%", "N:-0.0001");
        worth("=-0.0049%", "N:0");
        worth("=0.5%%", "N:0.0001");
        worth("=AVERAGE(0.0001,0)", "N:0.0001");
        worth("=AVERAGE(-0.0001,0)", "N:-0.0001");
        worth("=AVERAGE(0.0001,0,0)", "N:0");
        worth("=PRODUCT(0.01,0.005,10000)", "N:1");
        worth("=PRODUCT(0.01,0.0049,10000)", "N:0");
        worth("=-0.0049%&\"\"", "T:0");
    }

    private static void greatestText() {
        String sixty = "x".repeat(60);
        worth("=\"" + sixty + "\"", "T:" + sixty);
        worth("=\"" + sixty + "y\"", "E:#VALUE!");
        worth("=\"" + "\"\"".repeat(60) + "\"", "T:" + "\"".repeat(60));
        worth("=\"" + "\"\"".repeat(61) + "\"", "E:#VALUE!");
        spread("={\"" + sixty + "\",\"" + sixty + "y\",1}", 1, 3, "T:" + sixty, "E:#VALUE!", "N:1");
        worth("=\"" + sixty.substring(1) + "\"&\"y\"", "T:" + sixty.substring(1) + "y");
        worth("=\"" + sixty + "\"&\"\"", "T:" + sixty);
        worth("=\"" + sixty + "\"&\"y\"", "E:#VALUE!");
        worth("=\"" + sixty + "\"&0", "E:#VALUE!");
        worth("=\"" + sixty + "\"&Z80", "T:" + sixty);
        worth("=\"" + sixty.substring(4) + "\"&TRUE", "T:" + sixty.substring(4) + "TRUE");
        worth("=\"" + sixty.substring(4) + "\"&FALSE", "E:#VALUE!");
        worth("=LEN(\"" + sixty + "\")", "N:60");
        worth("=LEN(\"\")", "N:0");
        worth("=UPPER(\"" + sixty + "\")", "T:" + "X".repeat(60));
        Bench b = new Bench("text");
        b.with("A1", sixty);
        b.due("how many bytes", () -> b.grid.value(0, 0), 60);
        b.due("kind", () -> b.grid.kind(0, 0), 2);
    }

    private static void contents() {
        content("", "", "0:");
        content("0", "0", "N:0");
        content("-0", "0", "N:0");
        content("-0.0000", "0", "N:0");
        content("00000000000", "0", "N:0");
        content("000000000000", "000000000000", "T:000000000000");
        content("00000000007.5000", "7.5", "N:7.5");
        content("90000000000", "90000000000", "N:90000000000");
        content("-90000000000", "-90000000000", "N:-90000000000");
        content("90000000000.0000", "90000000000", "N:90000000000");
        content("90000000000.0001", "90000000000.0001", "T:90000000000.0001");
        content("-90000000000.0001", "-90000000000.0001", "T:-90000000000.0001");
        content("90000000001", "90000000001", "T:90000000001");
        content("12345678901", "12345678901", "N:12345678901");
        content("123456789012", "123456789012", "T:123456789012");
        content("1.2345", "1.2345", "N:1.2345");
        content("1.23450", "1.23450", "T:1.23450");
        content("1.", "1.", "T:1.");
        content(".1", ".1", "T:.1");
        content("-.1", "-.1", "T:-.1");
        content("-", "-", "T:-");
        content("--1", "--1", "T:--1");
        content("+1", "+1", "T:+1");
        content(" 1", " 1", "T: 1");
        content("1 ", "1 ", "T:1 ");
        content("- 1", "- 1", "T:- 1");
        content(" ", " ", "T: ");
        content("TRUE", "TRUE", "B:TRUE");
        content("FALSE", "FALSE", "B:FALSE");
        content("TRUE ", "TRUE ", "T:TRUE ");
        content(" FALSE", " FALSE", "T: FALSE");
        content("True", "True", "T:True");
        content("TRUEX", "TRUEX", "T:TRUEX");
        content("'", "'", "T:");
        content("''", "''", "T:'");
        content("'''", "'''", "T:''");
        content("'a", "a", "T:a");
        content("' ", " ", "T: ");
        content("'a'", "a'", "T:a'");
        content("'1", "'1", "T:1");
        content("'-1.50", "'-1.50", "T:-1.50");
        content("'+1", "+1", "T:+1");
        content("'1.23456", "1.23456", "T:1.23456");
        content("'90000000001", "90000000001", "T:90000000001");
        content("'TRUE", "'TRUE", "T:TRUE");
        content("'true", "true", "T:true");
        content("'=", "'=", "T:=");
        content("'=1", "'=1", "T:=1");
        content(" =1", " =1", "T: =1");
        content("#N/A", "#N/A", "T:#N/A");
        content("{1}", "{1}", "T:{1}");
        content("x".repeat(60), "x".repeat(60), "T:" + "x".repeat(60));
        content("'" + "x".repeat(60), "x".repeat(60), "T:" + "x".repeat(60));
        content("'" + "=".repeat(60), "'" + "=".repeat(60), "T:" + "=".repeat(60));
        Bench b = new Bench("content");
        b.due("61 bytes", b.put("C3", "x".repeat(61)), FULL);
        b.due("61 bytes behind '", b.put("C3", "'" + "x".repeat(61)), FULL);
        b.due("61 blanks", b.put("C3", " ".repeat(61)), FULL);
        b.due("as many as may be fed", b.put("C3", "9".repeat(2000)), FULL);
        b.due("nothing came of it", () -> b.grid.count(2), 0);
    }

    /** What is shown is what it is when it is set again. */
    private static void shownAgain() {
        String[] some = {"1", "-0.5", "'1", "''", "'", "'=1", "=1+ 2.50", "= \"a b\" & { 1 , 2 }", "abc", "'TRUE", "FALSE", "=$A1:B$2", "=B2:A1"};
        for (String s : some) {
            Bench b = new Bench("shown again");
            b.with("D4", s);
            String shown = b.content("D4");
            String value = b.value("D4");
            b.with("D4", shown);
            b.dueContent("D4", shown);
            b.dueValue("D4", value);
        }
    }

    private static void bytesOfTexts() {
        for (int k = 0; k < 256; k++) {
            int place = k;
            String one = String.valueOf((char) k);
            Bench b = new Bench("byte " + k);
            boolean sound = k >= 32 && k <= 126;
            b.due("first", b.put("A1", k == '=' ? "'=" : one + "x"), sound ? "1" : BROKEN);
            b.due("place", () -> b.grid.count(3), sound ? -1 : 0);
            b.due("last", b.put("A1", "x" + one), sound ? "1" : BROKEN);
            b.due("place", () -> b.grid.count(3), sound ? -1 : 1);
            b.due("behind '", b.put("A1", "'" + one), sound ? "1" : BROKEN);
            b.due("place of " + place, () -> b.grid.count(3), sound ? -1 : 1);
        }
        Bench b = new Bench("the first of them");
        b.due("set", b.put("A1", "ab\u007fc\u0001"), BROKEN);
        b.due("place", () -> b.grid.count(3), 2);
    }

    private static String formulaOf(int bytes) {
        return bytes % 2 == 0 ? "=1" + "+1".repeat(bytes / 2 - 1) : "=10" + "+1".repeat((bytes - 3) / 2);
    }

    private static void lengthShown() {
        for (int bytes = 249; bytes <= 252; bytes++) {
            String formula = formulaOf(bytes);
            boolean fits = bytes <= 250;
            Bench b = new Bench(bytes + " bytes shown");
            b.due("set", b.put("A1", formula), fits ? "1" : FULL);
            b.due("area", b.area("B1", 1, 1, formula), fits ? "2" : FULL);
            b.due("name", b.name("N" + formula), fits ? "1" : FULL);
            b.due("name of 12 letters", b.name("ABCDEFGHIJKL" + formula), fits ? "2" : FULL);
            b.due("blanks do not count", b.put("A2", formula.replace("+", " + ") + " "), fits ? "3" : FULL);
            b.due("no place", () -> b.grid.count(3), -1);
            if (fits) {
                b.dueContent("A1", formula);
                b.due("shown", () -> b.grid.show(0, 1, true), bytes);
            }
        }
        Bench b = new Bench("numbers as short as can be");
        b.due("set", b.put("A1", "=1.0000" + "+1.0000".repeat(124)), "1");
        b.due("shown", () -> b.grid.show(0, 0, true), 250);
        b.due("texts keep their blanks", b.put("A1", "=\"" + " ".repeat(247) + "\""), "1");
        b.due("shown", () -> b.grid.show(0, 0, true), 250);
        b.due("texts keep their blanks", b.put("A1", "=\"" + " ".repeat(248) + "\""), FULL);
    }

    /** Each error by its number and its sign, as formulas give it and as it is written. */
    private static void errors() {
        String[][] all = {{"#DIV/0!", "=1/0"}, {"#VALUE!", "=-\"a\""}, {"#REF!", "=INDEX(1,2,2)"}, {"#NAME?", "=NOSUCH"}, {"#NUM!", "=90000000000+1"},
            {"#N/A", "=MATCH(1,2)"}, {"#CIRC!", "=A1"}, {"#CALC!", "=LAMBDA(1)"}};
        for (int k = 0; k < all.length; k++) {
            String[] e = all[k];
            int which = k + 1;
            Bench b = new Bench(e[0]);
            b.with("A1", e[1], "A2", "=" + e[0], "A3", "=ROWS(UNIQUE(A1:A2))");
            for (int r = 0; r < 2; r++) {
                int row = r;
                b.due("kind", () -> b.grid.kind(row, 0), 4);
                b.due("which", () -> b.grid.value(row, 0), which);
                b.due("bytes of its sign", () -> b.grid.show(row, 0, false), e[0].length());
            }
            b.dueValue("A1", "E:" + e[0]);
            b.dueValue("A2", "E:" + e[0]);
            b.dueValue("A3", "N:1");
        }
    }

    private static void names() {
        Bench b = new Bench("20 names");
        b.with("A1", "=N1_", "A2", "=N20_", "A3", "=N21_");
        for (int k = 1; k <= 20; k++) {
            b.due("name", b.name("N" + k + "_=" + k + "0"), String.valueOf(k));
        }
        b.dueValue("A1", "N:10");
        b.dueValue("A2", "N:200");
        b.dueValue("A3", "E:#NAME?");
        b.due("the 21st", b.name("N21_=1"), FULL);
        b.dueValue("A3", "E:#NAME?");
        b.due("one of the 20 anew", b.name("N1_=7"), "20");
        b.dueValue("A1", "N:7");
        b.grid.remove(false, 0, 80);
        b.due("they stay when all cells go", b.name("N21_=1"), FULL);
        for (String no : new String[] {"ABS", "SUM", "IF", "IFERROR", "CHOOSE", "LET", "LAMBDA", "MAP", "MAKEARRAY", "COUNTA", "VLOOKUP"}) {
            b.due("no name " + no, b.name(no + "=1"), BROKEN);
            b.due("place", () -> b.grid.count(3), 0);
        }
        for (String yes : new String[] {"SUMS", "SU", "SUM_", "SUM1", "A81", "A0", "AA1", "TRUE_", "TRUTH", "Z", "A_"}) {
            Bench c = new Bench("a name");
            c.due("name " + yes, c.name(yes + "=4"), "1");
            c.with("C3", "=" + yes);
            c.dueValue("C3", "N:4");
        }
    }

    /** What one formula makes of texts leaves those of names and of cells alone. */
    private static void textsApart() {
        Bench b = new Bench("texts of names");
        for (int k = 1; k <= 20; k++) {
            b.name("N" + k + "_=\"name " + k + "\"");
        }
        for (int k = 1; k <= 20; k++) {
            b.with("A1", "=\"ab\"&\"cd\"&N" + k + "_&N" + (21 - k) + "_");
            b.dueValue("A1", "T:abcdname " + k + "name " + (21 - k));
        }
        b.due("a text that is refused", b.put("A1", "=\"" + "x".repeat(1997) + "\""), FULL);
        for (int k = 1; k <= 20; k++) {
            b.with("A1", "=N" + k + "_");
            b.dueValue("A1", "T:name " + k);
        }
        Bench c = new Bench("texts of cells");
        String sixty = "0123456789".repeat(6);
        c.with("Z80", sixty, "Y80", sixty, "A1", "'a", "A2", "=FIND(2,123456)&FIND(TRUE,TRUE)&LEN(-12345.6789)", "A3", "=Z80&\"\"", "B1", "=UPPER(A1)&A1");
        c.dueValue("A2", "T:2111");
        c.dueValue("Z80", "T:" + sixty);
        c.dueValue("Y80", "T:" + sixty);
        c.dueValue("A3", "T:" + sixty);
        c.dueValue("B1", "T:Aa");
        c.dueContent("A1", "a");
        c.with("C1", "abzz", "C1", "ab", "C2", "=FIND(\"z\",C1)", "C3", "=C1&\"|\"", "C4", "=RIGHT(C1,3)", "C5", "=\"abc\">C1", "C6", "=C1<\"abc\"");
        c.dueValue("C5", "B:TRUE");
        c.dueValue("C6", "B:TRUE");
        c.dueValue("C2", "E:#VALUE!");
        c.dueValue("C3", "T:ab|");
        c.dueValue("C4", "T:ab");
    }

    /** Every cell has a text, and formulas and names come with texts of their own. */
    private static void textsOfAFullSheet() {
        String sixty = "0123456789".repeat(6);
        Bench b = new Bench("texts of a full sheet");
        b.with("A1", sixty);
        for (int k = 1; k < 80; k *= 2) {
            b.grid.copy(0, 0, Math.min(k, 80 - k), 1, k, 0);
        }
        for (int k = 1; k < 26; k *= 2) {
            b.grid.copy(0, 0, 80, Math.min(k, 26 - k), 0, k);
        }
        for (int k = 1; k <= 20; k++) {
            b.name("N" + k + "_=\"" + "n".repeat(59) + (char) ('a' + k) + "\"");
        }
        b.with("A1", "=UPPER(\"" + "y".repeat(60) + "\")", "A2", "=LEFT(N20_,59)&\"z\"");
        b.dueValue("A1", "T:" + "Y".repeat(60));
        b.dueValue("A2", "T:" + "n".repeat(59) + "z");
        for (int cell : new int[] {1, 1040, 1969, 1970, 2047, 2048, 2049, 2076, 2077, 2078, 2079}) {
            b.dueValue(Bench.cell(cell / 26, cell % 26), "T:" + sixty);
        }
    }

    /** About as many steps as a name of 250 bytes can take, and names before and behind it. */
    private static void longNames() {
        Bench b = new Bench("long names");
        b.name("BEFORE=1");
        b.name("LONG=CHOOSE(1,2)" + "+CHOOSE(1,2)".repeat(19));
        b.name("BEHIND=3");
        b.name("SIGNS=" + "-".repeat(248) + "5");
        b.with("A1", "=BEFORE&\"|\"&LONG&\"|\"&BEHIND&\"|\"&SIGNS&\"|\"&LONG");
        b.dueValue("A1", "T:1|40|3|5|40");
    }

    private static void namesAndAreas() {
        Bench b = new Bench("names used by areas and cells in turn");
        b.name("K=5");
        b.name("L=K*2");
        b.area("A1", 2, 1, "=K+1");
        b.with("B1", "=K", "B2", "=L");
        b.area("A3", 2, 1, "=L+K");
        b.with("B3", "=K&L");
        b.dueValue("A2", "N:6");
        b.dueValue("B1", "N:5");
        b.dueValue("B2", "N:10");
        b.dueValue("A4", "N:15");
        b.dueValue("B3", "T:510");
    }

    private static void unlikeArrays() {
        String na = "E:#N/A";
        spread("={1,2,3}+{10,20,30}", 1, 3, "N:11", "N:22", "N:33");
        spread("={1,2,3}+{10,20}", 1, 4, "N:11", "N:22", na, na);
        spread("={1,2}+{10,20,30}", 1, 3, "N:11", "N:22", na);
        spread("={1;2;3}+{10;20}", 4, 1, "N:11", "N:22", na, na);
        spread("={1;2}*{10;20;30}", 3, 1, "N:10", "N:40", na);
        spread("={1,2,3}+10", 1, 3, "N:11", "N:12", "N:13");
        spread("={1,2,3}+{10}", 1, 3, "N:11", "N:12", "N:13");
        spread("={10}-{1;2;3}", 3, 1, "N:9", "N:8", "N:7");
        spread("={1,2}+{10;20;30}", 3, 2, "N:11", "N:12", "N:21", "N:22", "N:31", "N:32");
        spread("={1,2;3,4}+{10,20}", 2, 2, "N:11", "N:22", "N:13", "N:24");
        spread("={1,2;3,4}+{10;20}", 2, 2, "N:11", "N:12", "N:23", "N:24");
        spread("={1,2;3,4}+{10,20,30}", 2, 3, "N:11", "N:22", na, "N:13", "N:24", na);
        spread("={1,2;3,4}&{1,2,3;4,5,6;7,8,9}", 3, 3, "T:11", "T:22", na, "T:34", "T:45", na, na, na, na);
        spread("={1,2,3}>{2;2;2}", 3, 3, "B:FALSE", "B:FALSE", "B:TRUE", "B:FALSE", "B:FALSE", "B:TRUE", "B:FALSE", "B:FALSE", "B:TRUE");
        spread("=-{1,2}", 1, 3, "N:-1", "N:-2", na);
        spread("={1,2}%", 1, 2, "N:0.01", "N:0.02");
        spread("=ROUND({1.26,2.34},{1;0})", 2, 2, "N:1.3", "N:2.3", "N:1", "N:2");
        spread("=MID(\"abc\",{1,2,3},{1;2})", 2, 3, "T:a", "T:b", "T:c", "T:ab", "T:bc", "T:c");
        spread("=MID({\"ab\",\"cd\"},{1,2,2},1)", 1, 3, "T:a", "T:d", na);
        spread("=IF({1,0},{1;2;3},9)", 3, 2, "N:1", "N:9", "N:2", "N:9", "N:3", "N:9");
        spread("=IF({1,0,1},{7,8},9)", 1, 3, "N:7", "N:9", na);
        spread("=IF({1,0},IF(1,2,3),IF(0,4,5))", 1, 2, "N:2", "N:5");
        spread("=IF({1,0},IFERROR(#N/A,2),CHOOSE(2,4,5))", 1, 2, "N:2", "N:5");
        spread("=IF(IF({1,0},0,1),IF({1,0},2,3),4)", 1, 2, "N:4", "N:3");
        spread("=IFERROR({1,#REF!},IF(1,2,3))", 1, 2, "N:1", "N:2");
        spread("=IFERROR({1,#REF!},IFERROR(#N/A,3))", 1, 2, "N:1", "N:3");
        spread("=IFERROR({1,#REF!},{5;6})", 2, 2, "N:1", "N:5", "N:1", "N:6");
        spread("={#REF!,1}+{#NUM!,#NUM!}", 1, 2, "E:#REF!", "E:#NUM!");
        worth("=COLUMNS({1,2,3}+{1,2})", "N:3");
        worth("=ROWS({1,2,3}+{1;2})", "N:2");
    }

    private static void wholeArrays() {
        spread("=TRANSPOSE({1,2,3;4,5,6})", 3, 2, "N:1", "N:4", "N:2", "N:5", "N:3", "N:6");
        spread("=TRANSPOSE({1;2})", 1, 2, "N:1", "N:2");
        spread("=SEQUENCE(2,3,10,-1)", 2, 3, "N:10", "N:9", "N:8", "N:7", "N:6", "N:5");
        spread("=SORT({2,\"a\";1,\"b\";2,\"c\";1,\"d\"})", 4, 2, "N:1", "T:b", "N:1", "T:d", "N:2", "T:a", "N:2", "T:c");
        spread("=SORT({#REF!;TRUE;\"b\";#N/A;\"B\";3;FALSE;-1})", 8, 1, "N:-1", "N:3", "T:B", "T:b", "B:FALSE", "B:TRUE", "E:#REF!", "E:#N/A");
        spread("=UNIQUE({1,2;1,3;1,2;2,2;1,3})", 3, 2, "N:1", "N:2", "N:1", "N:3", "N:2", "N:2");
        spread("=FILTER({1,2;3,4;5,6},{1;0;TRUE})", 2, 2, "N:1", "N:2", "N:5", "N:6");
        spread("=MAP({1,2;3,4},LAMBDA(X,X*X))", 2, 2, "N:1", "N:4", "N:9", "N:16");
        spread("=MAKEARRAY(2,3,LAMBDA(X,Y,X&Y))", 2, 3, "T:11", "T:12", "T:13", "T:21", "T:22", "T:23");
        spread("=REDUCE({0,0},{1;2},LAMBDA(X,Y,X+Y*{1,10}))", 1, 2, "N:3", "N:30");
        spread("={1,\"a\";TRUE,#N/A}", 2, 2, "N:1", "T:a", "B:TRUE", "E:#N/A");
        Bench b = new Bench("a range by its corners");
        b.with("A1", "1", "B1", "2", "A2", "3", "B2", "4", "C2", "x");
        for (String range : new String[] {"A1:B2", "B2:A1", "A2:B1", "B1:A2", "$A$1:B$2"}) {
            b.area("D1", 2, 2, "=" + range);
            b.due(range, b.value("D1") + b.value("E1") + b.value("D2") + b.value("E2"), "N:1N:2N:3N:4");
        }
        b.area("D5", 2, 3, "=A2:C3");
        b.due("texts and nothing", b.value("D5") + b.value("F5") + b.value("D6") + b.value("F6"), "N:3T:x0:0:");
    }

    private static void areas() {
        String na = "E:#N/A";
        spread("=7", 2, 2, "N:7", "N:7", "N:7", "N:7");
        spread("={7}", 2, 2, "N:7", "N:7", "N:7", "N:7");
        spread("={7,8}", 2, 3, "N:7", "N:8", na, "N:7", "N:8", na);
        spread("={7;8}", 3, 2, "N:7", "N:7", "N:8", "N:8", na, na);
        spread("={1,2;3,4}", 1, 1, "N:1");
        spread("={1,2;3,4}", 1, 2, "N:1", "N:2");
        spread("={1,2;3,4}", 2, 1, "N:1", "N:3");
        spread("={1,2;3,4}", 3, 3, "N:1", "N:2", na, "N:3", "N:4", na, na, na, na);
        spread("=Z80", 1, 2, "0:", "0:");
        spread("=#REF!", 1, 2, "E:#REF!", "E:#REF!");
        spread("=LAMBDA(1)", 2, 1, "E:#CALC!", "E:#CALC!");
        spread("=B2", 1, 2, "E:#CIRC!", "E:#CIRC!");
        worth("={1,2;3,4}", "N:1");
        worth("=LAMBDA(1)", "E:#CALC!");
        worth("=A1:A3", "0:");
        Bench b = new Bench("the whole sheet");
        b.due("area", b.area("A1", 80, 26, "=SEQUENCE(80,26,1,1)"), "2080");
        b.dueValue("A1", "N:1");
        b.dueValue("Z80", "N:2080");
        b.due("one formula", () -> b.grid.count(4), 1);
        b.due("the last cell alone", b.put("Z80", "1"), "IllegalStateException");
    }

    private static void hanging() {
        String[][] rings = {
            {"=C3"}, {"=C3:C3"}, {"=$C$3"}, {"=ROWS(A1:D4)"}, {"=IF(TRUE,1,C3)"}, {"=IFERROR(1,C3)"}, {"=CHOOSE(1,1,C3)"},
            {"=IFERROR(C3,1)"}, {"=IFERROR(D4,1)", "=IFERROR(C3,1)"}, {"=IFERROR(D4,1)", "=IFERROR(E5,1)", "=IFERROR(C3,1)"},
            {"=IFERROR(D4,1)", "=IFERROR(E5,1)", "=IFERROR(F6,1)", "=IFERROR(C3,1)"}, {"=ROWS(D4:F6)", "=COUNT(C3:C4)", "=COUNT(C3:D4)", "=COUNT(E5:E6)"},
            {"=COUNT(D4,E5,F6)", "=COUNT(C3)", "=COUNT(C3)", "=COUNT(C3)"}, {"=COUNT(D4)", "=COUNT(E5,C3)", "=COUNT(F6,D4)", "=COUNT(E5)"},
            {"=LAMBDA(C3)"}, {"=LET(X,C3,1)"}, {"=5(C3)"}, {"=D4", "=C3"}, {"=D4", "=E5", "=F6", "=C3"}, {"=D4", "=SUM(A1:C3)"}};
        for (String[] ring : rings) {
            Bench b = new Bench("ring of " + String.join(" ", ring));
            String[] cells = {"C3", "D4", "E5", "F6"};
            for (int k = 0; k < ring.length; k++) {
                b.with(cells[k], ring[k]);
            }
            b.with("H8", "=C3", "H9", "=IFERROR(C3,5)", "H10", "=B3");
            for (int k = 0; k < ring.length; k++) {
                b.dueValue(cells[k], "E:#CIRC!");
            }
            b.dueValue("H8", "E:#CIRC!");
            b.dueValue("H9", "N:5");
            b.dueValue("H10", "0:");
            b.with("C3", "6");
            b.dueValue("H8", "N:6");
            b.dueValue("H9", "N:6");
        }
        Bench apart = new Bench("two rings, one hanging on the other");
        apart.with("A1", "=COUNT(A2)", "A2", "=COUNT(A1)", "B1", "=COUNT(B2,A1)", "B2", "=COUNT(B1)", "C1", "=COUNT(B1,A1,7)", "C2", "=COUNTA(C1,A1)");
        for (String cell : new String[] {"A1", "A2", "B1", "B2"}) {
            apart.dueValue(cell, "E:#CIRC!");
        }
        apart.dueValue("C1", "N:1");
        apart.dueValue("C2", "N:2");
        apart.with("A2", "3");
        apart.due("worked out", () -> apart.grid.count(4), 5);
        apart.dueValue("A1", "N:1");
        apart.dueValue("B1", "E:#CIRC!");
        apart.dueValue("C1", "N:2");
        Bench next = new Bench("next to itself");
        next.with("C3", "=SUM(A1:B4)+SUM(C1:C2)+SUM(C4:D4)+D3");
        next.dueValue("C3", "N:0");
    }

    private static void hangingOnNames() {
        String[] uses = {"=K", "=LET(X,K,1)", "=IF(TRUE,1,K)", "=LAMBDA(K,1)(2)+LAMBDA(K,K)(3)", "=LET(K,1,K)", "=K(1)", "=L"};
        for (String use : uses) {
            Bench b = new Bench("hangs on a name by " + use);
            b.name("L=1+K");
            b.with("C3", use);
            b.name("K=C3");
            b.due("worked out", () -> b.grid.count(4), 1);
            b.dueValue("C3", "E:#CIRC!");
            b.name("K=D3");
            b.due("worked out", () -> b.grid.count(4), 1);
            b.due("no longer", String.valueOf(b.value("C3").equals("E:#CIRC!")), "false");
        }
        for (String other : new String[] {"=LET(K,1,2)", "=LAMBDA(K,1)(2)", "=\"K\"", "=K1", "=KK", "=SUM(1)"}) {
            Bench b = new Bench("does not hang on a name by " + other);
            b.with("C3", other);
            String before = b.value("C3");
            b.name("K=C3");
            b.due("worked out", () -> b.grid.count(4), 0);
            b.dueValue("C3", before);
        }
        String[][] orders = {{"P=Q", "Q=R", "R=A1"}, {"Q=R", "P=Q", "R=A1"}, {"R=A1", "Q=R", "P=Q"}, {"R=A1", "P=Q", "Q=R"}};
        for (String[] order : orders) {
            Bench b = new Bench("a name of names");
            b.with("A1", "=B1", "B1", "=P");
            for (String name : order) {
                b.name(name);
            }
            b.dueValue("A1", "E:#CIRC!");
            b.dueValue("B1", "E:#CIRC!");
            b.name("R=2");
            b.due("worked out", () -> b.grid.count(4), 2);
            b.dueValue("A1", "N:2");
            b.name("R=C1");
            b.with("C1", "5");
            b.due("worked out", () -> b.grid.count(4), 2);
            b.dueValue("A1", "N:5");
        }
        Bench gone = new Bench("hangs no longer");
        gone.with("A1", "=K", "A2", "=A1", "A3", "=B9");
        gone.with("A1", "5", "A3", "6");
        gone.name("K=1");
        gone.due("worked out", () -> gone.grid.count(4), 0);
        gone.with("A1", "=7", "A3", "=8");
        gone.name("K=2");
        gone.due("worked out", () -> gone.grid.count(4), 0);
        gone.with("B9", "1");
        gone.due("worked out", () -> gone.grid.count(4), 0);
        gone.dueValue("A2", "N:7");
        Bench k = new Bench("a name stands for no cell");
        k.with("A1", "TRUE", "A2", "=SUM(K)", "A3", "=SUM(A1)", "A4", "=SUM(T)");
        k.name("K=A1");
        k.name("T=A1:A1");
        k.dueValue("A2", "N:1");
        k.dueValue("A3", "N:0");
        k.dueValue("A4", "N:0");
    }

    private static void moved(String formula, int down, int right, String want) {
        Bench b = new Bench(formula + " copied by " + down + ", " + right);
        b.with("M40", formula);
        b.due("copy", () -> b.grid.copy(39, 12, 1, 1, 39 + down, 12 + right), 2);
        b.dueContent(Bench.cell(39 + down, 12 + right), want);
        b.dueContent("M40", formula);
    }

    private static void copiedReferences() {
        moved("=A1", 1, 1, "=B2");
        moved("=A1", -1, 0, "=#REF!");
        moved("=A1", 0, -1, "=#REF!");
        moved("=A2+B1", -1, 0, "=A1+#REF!");
        moved("=A2+B1", 0, -1, "=#REF!+A1");
        moved("=Z80", 1, 0, "=#REF!");
        moved("=Z80", 0, 1, "=#REF!");
        moved("=Y79", 1, 1, "=Z80");
        moved("=Z79+Y80", 1, 1, "=#REF!+#REF!");
        moved("=$A$1+$Z$80", -1, -1, "=$A$1+$Z$80");
        moved("=$A1+A$1", -1, 1, "=#REF!+B$1");
        moved("=$A1+A$1", 1, -1, "=$A2+#REF!");
        moved("=A1:B2", 40, 13, "=N41:O42");
        moved("=A2:B3", -1, 0, "=A1:B2");
        moved("=A2:B3", -2, 0, "=#REF!");
        moved("=B1:C2", 0, -1, "=A1:B2");
        moved("=B1:C2", 0, -2, "=#REF!");
        moved("=A79:A80", 1, 0, "=#REF!");
        moved("=Y1:Z1", 0, 1, "=#REF!");
        moved("=C3:B2", 1, 1, "=C3:D4");
        moved("=B3:C2", 1, 1, "=C3:D4");
        moved("=A$5:A3", 4, 0, "=A$5:A7");
        moved("=$C1:A1", 0, 5, "=$C1:F1");
        moved("=A1:$C1", 0, 5, "=$C1:F1");
        moved("=$C$3:A1", 5, 5, "=$C$3:F6");
        moved("=A1:$C3", 0, 5, "=$C1:F3");
        moved("=A1:C$3", 5, 0, "=A$3:C6");
        moved("=SUM(A1,\"A1\",A1_,#N/A,{1})&LEN(A1)", 1, 0, "=SUM(A2,\"A1\",A1_,#N/A,{1})&LEN(A2)");
        moved("=\"A1\"\"A1\"&A1&A81&AA1&A1B", 1, 0, "=\"A1\"\"A1\"&A2&A81&AA1&A1B");
    }

    private static void line(boolean columns, int k, int n, boolean in, String formula, String want) {
        Bench b = new Bench(formula + (in ? " when before " : " when from ") + k + ", " + n + (columns ? " columns" : " rows")
                + (in ? " are put in" : " are taken out"));
        b.with("A1", formula);
        b.area("M1", 1, 1, formula);
        b.due("edit", () -> in ? b.grid.insert(columns, k, n) : b.grid.remove(columns, k, n), 2);
        b.dueContent(k == 0 && in ? columns ? Bench.cell(0, n) : Bench.cell(n, 0) : "A1", want);
        int column = columns && k <= 12 ? in ? 12 + n : 12 - n : 12;
        b.dueContent(Bench.cell(k == 0 && !columns && in ? n : 0, column), want);
    }

    private static void rows(int k, int n, boolean in, String formula, String want) {
        line(false, k, n, in, formula, want);
    }

    private static void columns(int k, int n, boolean in, String formula, String want) {
        line(true, k, n, in, formula, want);
    }

    private static void referencesWithLinesIn() {
        rows(5, 2, true, "=B5", "=B5");
        rows(5, 2, true, "=B6", "=B8");
        rows(5, 2, true, "=$B$6", "=$B$8");
        rows(5, 2, true, "=B78", "=B80");
        rows(5, 2, true, "=B79", "=#REF!");
        rows(5, 2, true, "=B80", "=#REF!");
        rows(5, 2, true, "=B5:C6", "=B5:C8");
        rows(5, 2, true, "=B6:C7", "=B8:C9");
        rows(5, 2, true, "=B1:C5", "=B1:C5");
        rows(5, 2, true, "=C6:B5", "=B5:C8");
        rows(5, 2, true, "=B$6:$C5", "=B5:$C$8");
        rows(5, 2, true, "=B70:B78", "=B72:B80");
        rows(5, 2, true, "=B70:B79", "=B72:B80");
        rows(5, 2, true, "=B70:B80", "=B72:B80");
        rows(5, 2, true, "=B78:B80", "=B80:B80");
        rows(5, 2, true, "=B79:B80", "=#REF!");
        rows(5, 2, true, "=B1:B80", "=B1:B80");
        rows(5, 75, true, "=B5:B80", "=B5:B5");
        rows(5, 75, true, "=B6:B80", "=#REF!");
        rows(79, 1, true, "=B80", "=#REF!");
        rows(79, 1, true, "=B79:B80", "=B79:B79");
        rows(0, 1, true, "=B1", "=B2");
        rows(0, 79, true, "=B1:B2", "=B80:B80");
        columns(5, 2, true, "=E1", "=E1");
        columns(5, 2, true, "=F1", "=H1");
        columns(5, 2, true, "=$X1", "=$Z1");
        columns(5, 2, true, "=Y1", "=#REF!");
        columns(5, 2, true, "=Z1", "=#REF!");
        columns(5, 2, true, "=W1:Y1", "=Y1:Z1");
        columns(5, 2, true, "=X1:Z1", "=Z1:Z1");
        columns(5, 2, true, "=Y1:Z1", "=#REF!");
        columns(5, 2, true, "=F2:E1", "=E1:H2");
        columns(25, 1, true, "=Z1", "=#REF!");
        columns(25, 1, true, "=Y1:Z1", "=Y1:Y1");
        columns(0, 1, true, "=A5", "=B5");
    }

    private static void referencesWithLinesOut() {
        rows(5, 2, false, "=B5", "=B5");
        rows(5, 2, false, "=B6", "=#REF!");
        rows(5, 2, false, "=B7", "=#REF!");
        rows(5, 2, false, "=$B$7", "=#REF!");
        rows(5, 2, false, "=B8", "=B6");
        rows(5, 2, false, "=B80", "=B78");
        rows(5, 2, false, "=B5:B8", "=B5:B6");
        rows(5, 2, false, "=B6:B8", "=B6:B6");
        rows(5, 2, false, "=B5:B7", "=B5:B5");
        rows(5, 2, false, "=B7:B9", "=B6:B7");
        rows(5, 2, false, "=B4:B6", "=B4:B5");
        rows(5, 2, false, "=B6:B7", "=#REF!");
        rows(5, 2, false, "=B7:B6", "=#REF!");
        rows(5, 2, false, "=B6:B6", "=#REF!");
        rows(5, 2, false, "=C9:B6", "=B6:C7");
        rows(5, 2, false, "=B$6:C9", "=B$6:C7");
        rows(5, 2, false, "=B9:C$6", "=B$6:C7");
        rows(5, 75, false, "=B5:B80", "=B5:B5");
        rows(5, 75, false, "=B6:B80", "=#REF!");
        rows(5, 1, false, "=\"B6\"&B6_&B6", "=\"B6\"&B6_&#REF!");
        columns(3, 2, false, "=C1", "=C1");
        columns(3, 2, false, "=D1", "=#REF!");
        columns(3, 2, false, "=E1", "=#REF!");
        columns(3, 2, false, "=F1", "=D1");
        columns(3, 2, false, "=Z1", "=X1");
        columns(3, 2, false, "=C2:F2", "=C2:D2");
        columns(3, 2, false, "=D2:F2", "=D2:D2");
        columns(3, 2, false, "=C2:E2", "=C2:C2");
        columns(3, 2, false, "=D2:E9", "=#REF!");
        columns(3, 2, false, "=$F9:D2", "=D2:$D9");
    }

    /** Names have no content to be shown: what they are worth tells where their references have gone. */
    private static void referencesOfNames() {
        Bench b = new Bench("references of names");
        b.with("B5", "5", "B6", "6", "B7", "7", "B8", "8", "A1", "=K", "A2", "=SUM(T)", "A3", "=ROWS(T)");
        b.name("K=B7");
        b.name("T=B8:$B$6");
        b.grid.insert(false, 6, 3);
        b.dueValue("A1", "N:7");
        b.dueValue("A2", "N:21");
        b.dueValue("A3", "N:6");
        b.grid.remove(false, 5, 4);
        b.dueValue("A1", "N:7");
        b.dueValue("A2", "N:15");
        b.dueValue("A3", "N:2");
        b.grid.remove(false, 5, 1);
        b.dueValue("A1", "E:#REF!");
        b.dueValue("A2", "N:8");
        b.grid.remove(true, 1, 1);
        b.dueValue("A2", "E:#REF!");
        b.grid.insert(true, 1, 1);
        b.dueValue("A1", "E:#REF!");
        Bench c = new Bench("copies do not move the references of names");
        c.with("A1", "1", "A2", "2", "B1", "=K");
        c.name("K=A1");
        c.grid.copy(0, 1, 1, 1, 1, 1);
        c.dueContent("B2", "=K");
        c.dueValue("B2", "N:1");
    }

    public static void main(String[] args) {
        greatestNumber();
        rounding();
        greatestText();
        contents();
        shownAgain();
        bytesOfTexts();
        lengthShown();
        errors();
        names();
        textsApart();
        textsOfAFullSheet();
        longNames();
        namesAndAreas();
        unlikeArrays();
        wholeArrays();
        areas();
        hanging();
        hangingOnNames();
        copiedReferences();
        referencesWithLinesIn();
        referencesWithLinesOut();
        referencesOfNames();
        Bench.end("TermsBoundsTest");
    }
}
