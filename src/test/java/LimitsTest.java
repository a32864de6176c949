/** What a formula may take while it is worked out: just so much, and one more. */
public final class LimitsTest {
    private static void both(Bench b, String fits, String worth, String tooMuch) {
        b.with("Z80", fits);
        b.dueValue("Z80", worth);
        b.with("Z80", tooMuch);
        b.dueValue("Z80", "E:#CALC!");
    }

    private static void calls() {
        Bench b = new Bench("400 calls");
        both(b, "=SUM(MAP(SEQUENCE(400,1,1,0),LAMBDA(X,X)))", "N:400", "=IFERROR(SUM(MAP(SEQUENCE(401,1,1,0),LAMBDA(X,X))),5)");
        both(b, "=REDUCE(0,SEQUENCE(400,1,1,0),LAMBDA(X,Y,X+Y))", "N:400", "=REDUCE(0,SEQUENCE(401,1,1,0),LAMBDA(X,Y,X+Y))");
        both(b, "=SUM(MAKEARRAY(20,20,LAMBDA(X,Y,1)))", "N:400", "=SUM(MAKEARRAY(1,401,LAMBDA(X,Y,1)))");
        both(b, "=SUM(MAP(SEQUENCE(399,1,1,0),LAMBDA(X,X)))+LAMBDA(1)()", "N:400",
                "=SUM(MAP(SEQUENCE(399,1,1,0),LAMBDA(X,X)))+LAMBDA(1)()+LAMBDA(1)()");
        b.with("Z80", "=SUM(IFERROR(MAP(SEQUENCE(401,1,1,0),LAMBDA(1)),1))");
        b.dueValue("Z80", "N:401");
        b.name("F=LAMBDA(X,SUM(MAP(SEQUENCE(199,1,1,0),LAMBDA(Y,Y))))");
        both(b, "=F(1)+F(1)", "N:398", "=F(1)+F(1)+LAMBDA(1)()");
        b.name("G=SUM(MAP(SEQUENCE(100,1,1,0),LAMBDA(Y,Y)))");
        both(b, "=G+G+G+G", "N:400", "=G+G+G+G+LAMBDA(1)()");
    }

    private static void depth() {
        Bench b = new Bench("10 within one another");
        b.name("FACT=LAMBDA(N,IF(N<2,1,N*FACT(N-1)))");
        both(b, "=FACT(10)", "N:3628800", "=FACT(11)");
        b.with("Z80", "=FACT(3)+FACT(FACT(3))");
        b.dueValue("Z80", "N:726");
        for (int k = 1; k < 12; k++) {
            b.name("N" + k + "_=N" + (k + 1) + "_+1");
        }
        b.name("N12_=1");
        both(b, "=N3_", "N:10", "=N2_");
        both(b, "=N3_+N3_", "N:20", "=N3_+N3_+N2_");
        both(b, "=LAMBDA(N4_)()", "N:9", "=LAMBDA(N3_)()");
        both(b, "=N4_+LAMBDA(N4_)()", "N:18", "=N4_+LAMBDA(LAMBDA(N4_)())()");
        b.name("SELF=SELF");
        b.with("Z80", "=IFERROR(SELF,1)");
        b.dueValue("Z80", "E:#CALC!");
        b.with("Z80", "=IF(TRUE,2,SELF)");
        b.dueValue("Z80", "N:2");
    }

    private static void fan() {
        Bench b = new Bench("names of names");
        String many = "M2_" + "+M2_".repeat(60);
        for (int k = 1; k < 9; k++) {
            b.name("M" + k + "_=" + many.replace("2", String.valueOf(k + 1)));
        }
        b.name("M9_=0");
        b.with("Z80", "=M1_");
        b.dueValue("Z80", "N:0");
        b.name("M9_=LAMBDA(0)()");
        b.dueValue("Z80", "E:#CALC!");
    }

    private static void elements() {
        Bench b = new Bench("2080 of an array");
        both(b, "=ROWS(SEQUENCE(2080,1,1,1))", "N:2080", "=IFERROR(ROWS(SEQUENCE(2081,1,1,1)),5)");
        both(b, "=ROWS(SEQUENCE(80,1,1,1)+SEQUENCE(1,26,1,1))", "N:80", "=ROWS(SEQUENCE(80,1,1,1)+SEQUENCE(1,27,1,1))");
        both(b, "=COLUMNS(A1:Z79)", "N:26", "=SEQUENCE(90000000000,90000000000,1,1)");
        both(b, "=ROWS(IF(SEQUENCE(40,1,1,1),SEQUENCE(1,52,1,1)))", "N:40", "=ROWS(IF(SEQUENCE(41,1,1,1),SEQUENCE(1,52,1,1)))");
        b.with("Z80", "=MAKEARRAY(2081,1,5)");
        b.dueValue("Z80", "E:#VALUE!");
        Bench w = new Bench("20000 that words get");
        both(w, "=LET(X,SEQUENCE(2000,1,1,1),F,LAMBDA(Y,REDUCE(0,{1,2,3,4,5,6,7,8},LAMBDA(P,Q,LAMBDA(Z,1)(X)))),F(X))", "N:1",
                "=LET(X,SEQUENCE(2000,1,1,1),F,LAMBDA(Y,REDUCE(0,{1,2,3,4,5,6,7,8,9},LAMBDA(P,Q,LAMBDA(Z,1)(X)))),F(X))");
        both(w, "=LET(A_,SEQUENCE(2000,1,1,1),B_,A_,C_,A_,D_,A_,E_,A_,LET(F_,A_,G_,A_,H_,A_,I_,A_,J_,A_,1))", "N:1",
                "=LET(A_,SEQUENCE(2000,1,1,1),B_,A_,C_,A_,D_,A_,E_,A_,LET(F_,A_,G_,A_,H_,A_,I_,A_,J_,A_,LET(K_,{1},1)))");
        Bench t = new Bench("100000 bytes");
        String fifty = "\"" + "x".repeat(50) + "\"";
        both(t, "=ROWS(LEFT(" + fifty + ",SEQUENCE(2000,1,50,0)))", "N:2000", "=ROWS(LEFT(" + fifty + ",SEQUENCE(2000,1,50,0)))+LEN(UPPER(1))");
        both(t, "=ROWS(SEQUENCE(2000,1,0,0)&" + fifty.replace("xx\"", "x\"") + ")", "N:2000", "=ROWS(SEQUENCE(2001,1,0,0)&" + fifty.replace("xx\"", "x\"") + ")");
        t.with("Z80", "=ROWS(SEQUENCE(2000,1,0,0)&" + fifty + "&\"" + "y".repeat(11) + "\")");
        t.dueValue("Z80", "E:#CALC!");
        Bench e = new Bench("300000 elements");
        String part = "=LET(X,SEQUENCE(999,1,1,0),REDUCE(0,SEQUENCE(299,1,1,0),LAMBDA(P,Q,P+ROWS(X))))";
        both(e, part + "+ROWS({1})", "N:298702", part + "+ROWS({1,1})");
        both(e, part + "+ROWS(A1:A1)", "N:298702", part + "+ROWS(A1:A1)+ROWS(B1:B1)");
        both(e, part + "+ROWS(IF(1,{1}))", "N:298702", part + "+ROWS(IF({1},1))");
        both(e, part + "+ROWS(+{1})", "N:298702", part + "+ROWS(-{1})");
        both(e, part + "+ROWS(LET(Y,{1},5))", "N:298702", part + "+ROWS(LET(Y,{1},Y))");
        both(e, part + "+ROWS(IFERROR(#N/A,CHOOSE(1,LAMBDA({1})())))", "N:298702", part + "+ROWS(IFERROR({1},2))");
        both(e, part + "+ROWS(REDUCE(0,0,LAMBDA(P,Q,{1})))", "N:298702", part + "+ROWS(TRANSPOSE({1}))");
        e.name("ONE={1}");
        both(e, part + "+ROWS(ONE)", "N:298702", part + "+ROWS(ONE)+ROWS(ONE)");
        both(e, part + "+ROWS(MAP(1,LAMBDA(P,{1})))", "N:298702", part + "+ROWS(MAP({1},LAMBDA(P,1)))");
    }

    private static void nested() {
        Bench b = new Bench("what is within one another");
        String ten = "LAMBDA(".repeat(10) + "7" + ")()".repeat(10);
        both(b, "=" + ten, "N:7", "=LAMBDA(" + ten + ")()");
        both(b, "=" + ten + "+" + ten, "N:14", "=" + ten + "+LAMBDA(" + ten + ")()");
        b.name("F=LAMBDA(X,X+1)");
        b.with("Z80", "=" + "F(".repeat(12) + "0" + ")".repeat(12));
        b.dueValue("Z80", "N:12");
        b.name("THREE=LAMBDA(LAMBDA(LAMBDA(7)())())()");
        both(b, "=THREE+" + "LAMBDA(".repeat(6) + "THREE" + ")()".repeat(6), "N:14", "=THREE+" + "LAMBDA(".repeat(7) + "THREE" + ")()".repeat(7));
        both(b, "=" + "LAMBDA(".repeat(6) + "THREE" + ")()".repeat(6), "N:7", "=" + "LAMBDA(".repeat(7) + "THREE" + ")()".repeat(7));
        b.name("FLAT=7");
        b.with("Z80", "=" + ten + "+FLAT+LAMBDA(LAMBDA(FLAT)())()");
        b.dueValue("Z80", "N:21");
        b.name("BOTH=LAMBDA(LAMBDA(LAMBDA(7)())())()+FLAT");
        both(b, "=BOTH+" + "LAMBDA(".repeat(6) + "BOTH" + ")()".repeat(6), "N:28", "=BOTH+" + "LAMBDA(".repeat(7) + "BOTH" + ")()".repeat(7));
        b.name("DEEP=LAMBDA(N,IF(N<2,SUM(MAP({1,2},LAMBDA(X,X))),DEEP(N-1)))");
        both(b, "=DEEP(9)", "N:3", "=DEEP(10)");
        b.name("FOLD=LAMBDA(N,IF(N<2,REDUCE(0,{1,2},LAMBDA(X,Y,X+Y)),FOLD(N-1)))");
        both(b, "=FOLD(9)", "N:3", "=FOLD(10)");
        b.name("GRID=LAMBDA(N,IF(N<2,SUM(MAKEARRAY(1,2,LAMBDA(X,Y,Y))),GRID(N-1)))");
        both(b, "=GRID(9)", "N:3", "=GRID(10)");
    }

    /** Each formula has limits of its own, and so has an area; a name's share is that of the formula it is used in. */
    private static void eachFormula() {
        String calls = "SUM(MAP(SEQUENCE(400,1,1,0),LAMBDA(X,X)))";
        Bench b = new Bench("each formula");
        b.with("A1", "=" + calls, "A2", "=" + calls + "+A1");
        b.dueValue("A1", "N:400");
        b.dueValue("A2", "N:800");
        b.area("B1", 2, 2, "=" + calls);
        b.dueValue("C2", "N:400");
        b.name("K=" + calls);
        b.with("A3", "=K", "A4", "=K+A3", "A5", "=K+K", "A6", "=K+LAMBDA(0)()");
        b.dueValue("A3", "N:400");
        b.dueValue("A4", "N:800");
        b.dueValue("A5", "E:#CALC!");
        b.dueValue("A6", "E:#CALC!");
        Bench many = new Bench("many formulas");
        many.with("A1", "=SUM(SEQUENCE(2080,1,1,0))+ROWS(LEFT(SEQUENCE(2080,1,1,0)&\"" + "x".repeat(20) + "\",20))");
        for (int k = 1; k < 64; k *= 2) {
            many.grid.copy(0, 0, k, 1, k, 0);
        }
        many.grid.copy(0, 0, 64, 1, 0, 1);
        many.grid.copy(0, 0, 64, 2, 0, 2);
        many.due("formulas", () -> many.grid.count(4), 128);
        many.dueValue("A1", "N:4160");
        many.dueValue("D64", "N:4160");
        b.with("A7", "=IFERROR(A6,3)");
        b.dueValue("A7", "N:3");
    }

    /** What has another number of parameters is no call, but its E have been worked out. */
    private static void noCalls() {
        String many = "MAP(SEQUENCE(400,1,1,0),LAMBDA(X,X))";
        Bench b = new Bench("no calls");
        both(b, "=SUM(" + many + ")+COUNT(LAMBDA(1)(2),5(6))", "N:400", "=SUM(" + many + ")+COUNT(LAMBDA(1)())");
        both(b, "=COUNT(" + many + ",LAMBDA(1)(2))", "N:400", "=COUNT(" + many + ",LAMBDA(1)(LAMBDA(2)()))");
        both(b, "=COUNT(" + many + ",5(2))", "N:400", "=COUNT(" + many + ",5(LAMBDA(2)()))");
        both(b, "=COUNT(" + many + ",IF(TRUE,1,LAMBDA(2)()))", "N:401", "=COUNT(" + many + ",IF(TRUE,LAMBDA(2)(),1))");
    }

    private static void operatorsAndFunctions() {
        Bench b = new Bench("2080 that functions would give");
        String tall = "SEQUENCE(80,1,1,0)";
        String fits = "SEQUENCE(1,26,1,0)";
        String wide = "SEQUENCE(1,27,1,0)";
        String[] twos = {"%s+%s", "%s=%s", "%s&%s", "ROUND(%s,%s)", "MOD(%s,%s)", "LEFT(%s,%s)", "FIND(%s,%s)", "MID(%s,%s,1)", "IF(%s,%s)",
            "IFERROR(%s,%s)", "MID(%s,1,%s)", "IF(%s,1,%s)"};
        for (String two : twos) {
            both(b, "=COUNTA(" + String.format(two, tall, fits) + ")", "N:2080", "=COUNTA(" + String.format(two, tall, wide) + ")");
        }
        Bench w = new Bench("20000 that words get, of arrays alone");
        String nine = "=LET(X,SEQUENCE(2000,1,1,1),LAMBDA(A_,B_,C_,D_,E_,LAMBDA(F_,G_,H_,I_,1)(X,X,X,X))(X,X,X,X,X))";
        both(w, nine + "+LET(Y,5,Y)", "N:6", nine + "+SUM(LET(Y,{5},Y))");
        both(w, nine + "+LAMBDA(Y,Y)(5)", "N:6", nine + "+SUM(LAMBDA(Y,Y)({5}))");
        Bench t = new Bench("100000 bytes that functions make");
        String fifty = "\"" + "x".repeat(50) + "\"";
        for (String one : new String[] {"UPPER(%s)", "LEFT(%s,50)", "RIGHT(%s,50)", "MID(%s,1,50)", "%s&\"\"", "\"\"&%s"}) {
            String all = "=COUNTA(" + String.format(one, "IF(SEQUENCE(2000,1,1,0)," + fifty + ")") + ")";
            both(t, all + "+LEN(\"abc\")+LEN(12)", "N:2005", all + "+LEN(1&\"\")");
            both(t, all + "+LEN(\"\"&\"\")", "N:2000", all + "+LEN(LEFT(12,1))");
        }
        both(t, "=COUNT(SEQUENCE(2080,1,1,0)&\"" + "x".repeat(60) + "\")", "N:0",
                "=COUNT(SEQUENCE(2080,1,1,0)&\"" + "x".repeat(59) + "\")");
    }

    private static void areas() {
        Bench b = new Bench("all of an area");
        b.area("A1", 2, 2, "=IFERROR(SEQUENCE(2081,1,1,1),1)");
        for (String cell : new String[] {"A1", "A2", "B1", "B2"}) {
            b.dueValue(cell, "E:#CALC!");
        }
    }

    public static void main(String[] args) {
        calls();
        depth();
        fan();
        elements();
        nested();
        eachFormula();
        noCalls();
        operatorsAndFunctions();
        areas();
        Bench.end("LimitsTest");
    }
}
