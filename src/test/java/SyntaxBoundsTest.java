import java.util.Collections;

/** Each thing that a formula is made of: its least and greatest length and number, and the place where it can't stand. */
public final class SyntaxBoundsTest {
    /** Name, least and greatest number of E. */
    private static final String[][] FUNCTIONS = {
        {"ABS", "1", "1"}, {"INT", "1", "1"}, {"ROUND", "2", "2"}, {"MOD", "2", "2"}, {"NOT", "1", "1"}, {"LEN", "1", "1"},
        {"UPPER", "1", "1"}, {"LEFT", "2", "2"}, {"RIGHT", "2", "2"}, {"MID", "3", "3"}, {"FIND", "2", "2"},
        {"SUM", "1", "8"}, {"MIN", "1", "8"}, {"MAX", "1", "8"}, {"COUNT", "1", "8"}, {"AVERAGE", "1", "8"},
        {"PRODUCT", "1", "8"}, {"AND", "1", "8"}, {"OR", "1", "8"}, {"COUNTA", "1", "8"}, {"IF", "2", "3"},
        {"IFERROR", "2", "2"}, {"CHOOSE", "2", "9"}, {"ROWS", "1", "1"}, {"COLUMNS", "1", "1"}, {"TRANSPOSE", "1", "1"},
        {"INDEX", "3", "3"}, {"MATCH", "2", "2"}, {"SEQUENCE", "4", "4"}, {"SORT", "1", "1"}, {"UNIQUE", "1", "1"},
        {"FILTER", "2", "2"}, {"VLOOKUP", "3", "3"}, {"SUMIF", "3", "3"}, {"MAP", "2", "2"}, {"REDUCE", "3", "3"},
        {"MAKEARRAY", "3", "3"}};

    /** Everywhere a formula may be given, it is taken, and shown so. */
    private static void sound(String formula, String shown) {
        Bench b = new Bench("sound " + formula);
        b.due("set", b.put("J9", formula), "1");
        b.due("no place", () -> b.grid.count(3), -1);
        b.dueContent("J9", shown);
        b.due("area", b.area("J10", 1, 2, formula), "3");
        b.due("no place", () -> b.grid.count(3), -1);
        b.dueContent("K10", shown);
        b.due("name", b.name("NM" + formula), "1");
        b.due("no place", () -> b.grid.count(3), -1);
    }

    private static void sound(String formula) {
        sound(formula, formula);
    }

    /** Everywhere a formula may be given, it is refused with the place counted from the tape's first byte. */
    private static void broken(String formula, int place) {
        Bench b = new Bench("broken " + formula);
        String want = "UnsupportedOperationException";
        b.due("set", b.put("J9", formula), want);
        b.due("place", () -> b.grid.count(3), place);
        b.due("area", b.area("J9", 2, 2, formula), want);
        b.due("place", () -> b.grid.count(3), place);
        b.due("name", b.name("NM" + formula), want);
        b.due("place", () -> b.grid.count(3), place + 2);
        b.due("name with blanks behind", b.name("NM  " + formula), want);
        b.due("place", () -> b.grid.count(3), place + 4);
        b.due("nothing is there", () -> b.grid.count(2), 0);
    }

    private static String many(String one, int n) {
        return String.join(",", Collections.nCopies(n, one));
    }

    private static void numbersOfE() {
        for (String[] f : FUNCTIONS) {
            int least = Integer.parseInt(f[1]);
            int most = Integer.parseInt(f[2]);
            for (int n = 0; n <= most + 2; n++) {
                String formula = "=" + f[0] + "(" + many("1", n) + ")";
                if (n < least) {
                    broken(formula, formula.length() - 1);
                    broken("=" + f[0] + " ( " + many(" 1 ", n) + " )", f[0].length() + 5 + (n == 0 ? 0 : 4 * n - 1));
                } else if (n > most) {
                    broken(formula, f[0].length() + 2 + 2 * most);
                } else {
                    sound(formula);
                    sound("=" + f[0] + "(" + many("1<-A1:B2%&X()", n) + ")");
                }
            }
            sound("=" + f[0]);
            broken("=" + f[0] + "(" + many("1", most), f[0].length() + 1 + 2 * most);
            broken("=" + f[0] + "(" + many("1", most) + ", )", f[0].length() + 3 + 2 * most);
        }
        sound("=(1<2)");
        sound("=X(1<2,3>=4)(5<>6)");
        sound("=LET(X,1<2,Y,3<4,X<>Y)");
        sound("=LAMBDA(X,X<2)");
        for (int n = 0; n < 40; n++) {
            sound("=X(" + many("1", n) + ")");
            sound("=5(" + many("1", n) + ")()");
        }
        broken("=X(1,)", 5);
        broken("=X(,)", 3);
        broken("=X(1", 4);
    }

    private static void letAndLambda() {
        String[] words = {"V,", "W,", "X,", "Y,", "Z,", "T,"};
        StringBuilder let = new StringBuilder("=LET(");
        StringBuilder lambda = new StringBuilder("=LAMBDA(");
        broken("=LET()", 5);
        broken("=LET(1)", 5);
        broken("=LAMBDA()", 8);
        sound("=LAMBDA(1)");
        for (int n = 1; n <= 5; n++) {
            let.append(words[n - 1]).append("1,");
            lambda.append(words[n - 1]);
            sound(let + "V)");
            sound(let + "2)");
            broken(let + ")", let.length());
            broken(let.substring(0, let.length() - 1) + ")", let.length() - 1);
            broken(let + "2,3)", let.length() + 2);
            sound(lambda + "V)");
            sound(lambda + "2)");
            broken(lambda + ")", lambda.length());
            broken(lambda + "2,3)", lambda.length() + 2);
        }
        broken(let + "T,6,7)", let.length() + 2);
        broken(lambda + "T,7)", lambda.length() + 2);
        for (String no : new String[] {"1", "A1", "TRUE", "FALSE", "\"X\"", "(X)", "#N/A", "{1}", "-X", "$A$1", "_X", "x"}) {
            broken("=LET(" + no + ",1,2)", 5);
            broken("=LET(X,1," + no + ",2,3)", no.equals("x") || no.equals("_X") ? 9 : 9 + no.length() + 1);
        }
        broken("=LET(,1,2)", 5);
        broken("=LET( ,1,2)", 6);
        broken("=LET(X,1,,2,3)", 9);
        broken("=LET(X,,2)", 7);
        broken("=LAMBDA(,1)", 8);
        broken("=LAMBDA(X,,1)", 10);
        broken("=LET(X+1,2,3)", 6);
        broken("=LET(X:X,2,3)", 6);
        broken("=LET(X(1),2,3)", 6);
        broken("=LET(ABCDEFGHIJKLM,2,3)", 17);
        sound("=LET(ABCDEFGHIJKL,2,ABCDEFGHIJKL)");
        sound("=LET( X , 1 , X )", "=LET(X,1,X)");
        sound("=LAMBDA( X , X ) ( 1 )", "=LAMBDA(X,X)(1)");
        sound("=LET(SUM,1,MAP,2,SUM+MAP)");
        sound("=LAMBDA(LET,LAMBDA,LET)");
    }

    private static void numbers() {
        for (int digits = 1; digits <= 11; digits++) {
            sound("=" + "8".repeat(digits));
            sound("=" + "0".repeat(digits), "=0");
            sound("=" + "0".repeat(digits - 1) + "7", "=7");
        }
        broken("=" + "8".repeat(12), 12);
        broken("=" + "0".repeat(12), 12);
        broken("=" + "0".repeat(11) + "1", 12);
        for (int digits = 1; digits <= 4; digits++) {
            sound("=1." + "2".repeat(digits));
            sound("=12345678901." + "2".repeat(digits));
            sound("=1." + "0".repeat(digits), "=1");
            sound("=0." + "5".repeat(digits));
        }
        broken("=1.22222", 7);
        broken("=1.00000", 7);
        broken("=1.", 2);
        broken("=1.X", 2);
        broken("=1.+1", 2);
        broken("=1..5", 2);
        broken("=1.5.5", 4);
        broken("=.5", 1);
        broken("=1 .5", 3);
        broken("=1. 5", 2);
        broken("=1 5", 3);
        sound("=90000000000");
        sound("=90000000000.0000", "=90000000000");
        sound("=89999999999.9999");
        broken("=90000000000.0001", 1);
        broken("=90000000001", 1);
        broken("=99999999999", 1);
        broken("=1+90000000001", 3);
        broken("={1,90000000001}", 4);
        broken("={-90000000001}", 3);
        sound("={-90000000000}");
        sound("=1.10+01.0", "=1.1+1");
        broken("=1A", 2);
        broken("=1_", 2);
        broken("=1E5", 2);
        broken("=1\"a\"", 2);
        broken("=1#N/A", 2);
        broken("=1{1}", 2);
    }

    private static void texts() {
        sound("=\"\"");
        sound("=\"\"\"\"");
        sound("=\"\"\"\"\"\"");
        sound("=\"  \"");
        sound("=\"" + "x".repeat(247) + "\"");
        broken("=\"", 1);
        broken("=\"\"\"", 1);
        broken("=1&\"a", 3);
        broken("=\"a\" \"b\"", 5);
        broken("=\"a\"b\"", 4);
        for (int k = 0; k < 256; k++) {
            String s = "=1&\"" + (char) k + "\"";
            if (k == '"') {
                broken(s, 3);
            } else if (k >= 32 && k <= 126) {
                sound(s);
            } else {
                broken(s, 3);
            }
        }
    }

    private static void words() {
        String twelve = "ABCDEFGHIJKL";
        for (int n = 2; n <= 12; n++) {
            sound("=" + twelve.substring(0, n));
            sound("=Q" + "_".repeat(n - 1));
            sound("=Q" + "0".repeat(n - 1));
        }
        broken("=" + twelve + "M", 13);
        broken("=" + twelve + "0", 13);
        broken("=" + twelve + "_", 13);
        broken("=1+" + twelve + "M(1)", 15);
        sound("=" + twelve + "(1)");
        for (char c = 'A'; c <= 'Z'; c++) {
            sound("=" + c);
            sound("=" + c + c);
            sound("=" + c + "_");
            sound("=" + c + "0");
            sound("=" + c + "81");
            sound("=" + c + "800");
            sound("=" + c + "1" + c);
            sound("=" + c + "1_");
            broken("=" + (char) (c + 32), 1);
            broken("=" + c + (char) (c + 32), 2);
        }
        broken("=_", 1);
        broken("=_A", 1);
        broken("=X Y", 3);
        broken("=X.Y", 2);
        broken("=X$", 2);
        sound("=TRUE");
        sound("=FALSE");
        sound("=TRUE_");
        sound("=TRUE1");
        sound("=TRU");
        sound("=FALSEX");
        broken("=TRUE FALSE", 6);
        broken("=True", 2);
        broken("=TR UE", 4);
    }

    private static void cells() {
        for (char c = 'A'; c <= 'Z'; c++) {
            for (String row : new String[] {"1", "9", "10", "79", "80"}) {
                for (String cell : new String[] {c + row, "$" + c + row, c + "$" + row, "$" + c + "$" + row}) {
                    Bench b = new Bench("cell");
                    b.with("C5", "=" + cell, "C6", "=" + cell + ":" + cell);
                    b.due("a cell " + cell, () -> b.grid.kind(4, 2), 0);
                    b.due("a range of it " + cell, () -> b.grid.kind(5, 2), 0);
                }
            }
        }
        for (String row : new String[] {"0", "81", "99", "100", "01", "080", "1000"}) {
            Bench b = new Bench("no cell");
            b.with("B2", "=C" + row);
            b.dueValue("B2", "E:#NAME?");
            broken("=$C" + row, 1);
            broken("=C$" + row, 2);
            broken("=$C$" + row, 1);
            broken("=A1:C" + row, 4);
            broken("=C" + row + ":A1", row.length() + 2);
        }
        broken("=$", 1);
        broken("=$A", 1);
        broken("=A$", 2);
        broken("=$1", 1);
        broken("=$$A1", 1);
        broken("=A$$1", 2);
        broken("=$a1", 1);
        broken("=$A1B", 1);
        broken("=$A1_", 1);
        broken("=$A11B", 1);
        broken("=$AB1", 1);
        broken("=A$1B", 2);
        broken("=A 1", 3);
        broken("=$ A1", 1);
        broken("=A$ 1", 2);
        broken("=A1 B2", 4);
        sound("=A1:A1");
        sound("=Z80:A1");
        sound("=$A$1:$Z$80");
        sound("=A1 : B2", "=A1:B2");
        broken("=A1:", 4);
        broken("=A1: ", 5);
        broken("=:A1", 1);
        broken("=A1::B2", 4);
        broken("=A1:B2:C3", 6);
        broken("=A1:X", 4);
        broken("=A1:1", 4);
        broken("=A1:(B2)", 4);
        broken("=(A1):B2", 5);
        broken("=A1:TRUE", 4);
        broken("=1:2", 2);
    }

    private static void errors() {
        String[] signs = {"#DIV/0!", "#VALUE!", "#REF!", "#NAME?", "#NUM!", "#N/A", "#CIRC!", "#CALC!"};
        for (String sign : signs) {
            sound("=" + sign);
            sound("={" + sign + "," + sign + "}");
            sound("=" + sign + "()");
            broken("=1+" + sign.substring(0, sign.length() - 1), 3);
            broken("=" + sign + "X", sign.length() + 1);
            broken("=" + sign + sign, sign.length() + 1);
            broken("=" + sign.toLowerCase(), 1);
            broken("=# " + sign.substring(1), 1);
            broken("={-" + sign + "}", 3);
        }
        broken("=#", 1);
        broken("=#NAME!", 1);
        broken("=#N/A!", 5);
    }

    private static void open() {
        for (String opening : new String[] {"(", "ABS(", "X(", "5(", "LET(X,1,", "LAMBDA(", "IF(1,", "SUM(1,"}) {
            String twelve = "=" + opening.repeat(12);
            int last = opening.indexOf('(');
            sound(twelve + "1" + ")".repeat(12));
            broken(twelve + opening + "1" + ")".repeat(13), twelve.length() + last);
            broken(twelve + "{1}" + ")".repeat(12), twelve.length());
            broken(twelve + "(1)" + ")".repeat(12), twelve.length());
            broken(twelve + "X()" + ")".repeat(12), twelve.length() + 1);
            String eleven = "=" + opening.repeat(11);
            sound(eleven + "{1}" + ")".repeat(11));
            sound(eleven + "(1)+{2}+X(3)" + ")".repeat(11) + "+(((1)))+{1}");
            broken(eleven + "({1})" + ")".repeat(11), eleven.length() + 1);
        }
        broken("=(1", 3);
        broken("=1)", 2);
        broken("=(1))", 4);
        broken("=()", 2);
        broken("=(1}", 3);
        broken("={1)", 3);
        broken("=(1,2)", 3);
        broken("=(1;2)", 3);
    }

    private static void braces() {
        broken("={}", 2);
        broken("={ }", 3);
        broken("={,}", 2);
        broken("={;}", 2);
        broken("={", 2);
        broken("={1", 3);
        broken("={1,", 4);
        broken("={1;", 4);
        broken("={1,}", 4);
        broken("={1;}", 4);
        broken("={1,,2}", 4);
        broken("={1 2}", 4);
        for (int n = 1; n <= 6; n++) {
            String row = many("1", n);
            sound("={" + row + "}");
            sound("={" + row + ";" + row + ";" + row + "}");
            broken("={" + row + ";" + row + ",1}", 2 + 4 * n - 1);
            broken("={" + row + ";" + row + ";" + row + ",1;" + row + "}", 2 + 6 * n - 1);
            if (n > 1) {
                String fewer = many("1", n - 1);
                broken("={" + row + ";" + fewer + "}", 2 + 4 * n - 3);
                broken("={" + row + ";" + fewer + ";" + row + "}", 2 + 4 * n - 3);
                broken("={" + row + ";" + fewer + " }", 2 + 4 * n - 2);
            }
        }
        for (String no : new String[] {"A1", "X", "(1)", "{1}", "+1", "$A$1", "SUM(1)", "TRUEX", "=1", "*1", "%"}) {
            broken("={1," + no + "}", 4);
        }
        for (String no : new String[] {"TRUE", "\"a\"", "#N/A", "-1", "+1", "A1", "(1)"}) {
            broken("={-" + no + "}", 3);
        }
        broken("={1+1}", 3);
        broken("={1%}", 3);
        broken("={1(2)}", 3);
        sound("={ 1 , - 2.50 ; \"a \" , #N/A ; TRUE , FALSE } ( )", "={1,-2.5;\"a \",#N/A;TRUE,FALSE}()");
    }

    private static void operators() {
        for (String o : new String[] {"=", "<>", "<=", ">=", "<", ">", "&", "+", "-", "*", "/"}) {
            sound("=1" + o + "2");
            sound("=1 " + o + " 2", "=1" + o + "2");
            sound("=1" + o + "-+2%%");
            sound("=1" + (o + "1").repeat(60));
            broken("=1" + o, 2 + o.length());
            broken("=1" + o + "  ", 4 + o.length());
            broken("=1" + o + ")", 2 + o.length());
            broken("=1" + o + "*2", 2 + o.length());
            broken("=1" + o + "%", 2 + o.length());
            if (!o.equals("+") && !o.equals("-")) {
                broken("=" + o + "1", 1);
            } else {
                sound("=" + o + "1");
                sound("=" + o.repeat(248) + "1");
            }
        }
        broken("=1=>2", 3);
        broken("=1=<2", 3);
        broken("=1><2", 3);
        broken("=1<<2", 3);
        broken("=1< >2", 4);
        broken("=1< =2", 4);
        broken("=1> =2", 4);
        broken("=1==2", 3);
        sound("=1" + "%".repeat(248));
        broken("=1%2", 3);
        broken("=1%(2)", 3);
        sound("=1(2)%");
        broken("=1^2", 2);
    }

    /** Every byte where an A is due, and where an A has ended. */
    private static void everyByte() {
        for (int k = 0; k < 256; k++) {
            String one = "=" + (char) k;
            boolean letterOrDigit = k >= 'A' && k <= 'Z' || k >= '0' && k <= '9';
            if (letterOrDigit) {
                sound(one);
            } else {
                broken(one, "+-({ ".indexOf(k) >= 0 ? 2 : 1);
            }
            String behind = "=1" + (char) k;
            if (k >= '0' && k <= '9' || k == '%') {
                sound(behind);
            } else if (k == ' ') {
                sound(behind, "=1");
            } else {
                broken(behind, "+-*/&=<>(".indexOf(k) >= 0 ? 3 : 2);
            }
        }
    }

    /** Bytes that once were on the tape are none of it: each first part is read as if nothing had been behind it. */
    private static void firstParts() {
        String[] wholes = {"=$A$1:$B$2<=\"a\"\"b\"&12.5%", "=#DIV/0!<>#N/A>=#CALC!", "={1,-2.5;TRUE,\"x\"}(A1B,A1_)", "=LET(X_1,5,LAMBDA(Y,X_1<=Y)( 3 ))",
            "-12345678901.2345", "TRUE_", "FALSE1", "'=1", "12.34567", "=IF(1,2,3)-CHOOSE(1,2)"};
        for (String whole : wholes) {
            for (int n = 0; n <= whole.length(); n++) {
                int kept = n;
                Bench cut = new Bench("a part");
                cut.tape(whole);
                cut.grid.end(kept);
                Bench alone = new Bench("alone");
                alone.tape(whole.substring(0, kept));
                String what = whole + ", its first " + kept;
                cut.due("set of " + what, Bench.outcome(() -> cut.grid.set(0, 0)), Bench.outcome(() -> alone.grid.set(0, 0)));
                cut.due("place in " + what, () -> cut.grid.count(3), alone.grid.count(3));
                cut.due("content of " + what, cut.content("A1"), alone.content("A1"));
                cut.due("value of " + what, cut.value("A1"), alone.value("A1"));
                cut.tape("NM" + whole);
                cut.grid.end(kept + 2);
                alone.tape("NM" + whole.substring(0, kept));
                cut.due("name of " + what, Bench.outcome(cut.grid::name), Bench.outcome(alone.grid::name));
                cut.due("place in name of " + what, () -> cut.grid.count(3), alone.grid.count(3));
            }
        }
    }

    private static void beginnings() {
        broken("=", 1);
        broken("=  ", 3);
        sound("=1" + " ".repeat(1900), "=1");
        sound("=" + " ".repeat(1900) + "1", "=1");
        broken("=" + " ".repeat(1900) + ")", 1901);
        Bench b = new Bench("what is no formula");
        for (String s : new String[] {"", " ", "1", "x=1", "'=1", "+1", "TRUE", "\u0000=1"}) {
            b.due("area " + s, b.area("A1", 1, 1, s), "UnsupportedOperationException");
            b.due("place", () -> b.grid.count(3), s.equals(" ") ? 1 : 0);
        }
        b.due("blanks before it", b.area("A1", 1, 1, "  = 1 "), "1");
        b.dueContent("A1", "=1");
    }

    public static void main(String[] args) {
        numbersOfE();
        letAndLambda();
        numbers();
        texts();
        words();
        cells();
        errors();
        open();
        braces();
        operators();
        everyByte();
        firstParts();
        beginnings();
        Bench.end("SyntaxBoundsTest");
    }
}
