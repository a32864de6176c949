/** What formulas are worth: operators, functions, arrays, words. A column is nothing .. TRUE, see the sheet below. */
public final class FormulasTest {
    private static final String[] SHEET = {
        "A1", "1", "A2", "2", "A3", "3.5", "A4", "abc", "A5", "TRUE", "A6", "=1/0",
        "B1", "10", "B2", "20", "B3", "-30", "B4", "'x", "B5", "FALSE",
        "D1", "b", "D2", "a", "D3", "2", "D5", "1", "D6", "=#N/A", "D7", "TRUE"};

    private static final String[][] DUE = {
        // numbers
        {"=1+2*3", "N:7"}, {"=(1+2)*3", "N:9"}, {"=7/2", "N:3.5"}, {"=1/3", "N:0.3333"}, {"=2/3", "N:0.6667"},
        {"=-2/3", "N:-0.6667"}, {"=0.0001/2", "N:0.0001"}, {"=-0.0001/2", "N:-0.0001"}, {"=0.0001/3", "N:0"},
        {"=0.5*0.0001", "N:0.0001"}, {"=-0.5*0.0001", "N:-0.0001"}, {"=0.4*0.0001", "N:0"}, {"=5%", "N:0.05"},
        {"=0.005%", "N:0.0001"}, {"=-0.005%", "N:-0.0001"}, {"=0.0049%", "N:0"}, {"=-5%%", "N:-0.0005"},
        {"=90000000000+0", "N:90000000000"}, {"=90000000000+0.0001", "E:#NUM!"}, {"=-90000000000-1", "E:#NUM!"},
        {"=300000*300000", "N:90000000000"}, {"=300000*300000.0001", "E:#NUM!"}, {"=90000000000*90000000000", "E:#NUM!"},
        {"=90000000000/0.5", "E:#NUM!"}, {"=-90000000000/0.0001", "E:#NUM!"}, {"=1/0", "E:#DIV/0!"}, {"=0/0", "E:#DIV/0!"},
        {"=90000000000*1", "N:90000000000"}, {"=--5", "N:5"}, {"=-+-5", "N:5"}, {"=2-3-4", "N:-5"}, {"=16/4/2", "N:2"},
        {"=A9+1", "N:1"}, {"=A9*5", "N:0"}, {"=-A9", "N:0"}, {"=+A9", "0:"}, {"=A9", "0:"}, {"=TRUE+TRUE", "N:2"}, {"=-TRUE", "N:-1"},
        {"=TRUE%", "N:0.01"}, {"=\"1\"+1", "E:#VALUE!"}, {"=-\"a\"", "E:#VALUE!"}, {"=+\"a\"", "T:a"}, {"=\"a\"%", "E:#VALUE!"},
        {"=1/A9", "E:#DIV/0!"}, {"=\"a\"/0", "E:#VALUE!"},
        // errors
        {"=#N/A+#REF!", "E:#N/A"}, {"=1+#REF!", "E:#REF!"}, {"=\"a\"+#REF!", "E:#REF!"}, {"=#NUM!&1", "E:#NUM!"},
        {"=#NUM!=#NUM!", "E:#NUM!"}, {"=-#NUM!", "E:#NUM!"}, {"=NOSUCH", "E:#NAME?"}, {"=NOSUCH(1)", "E:#NAME?"}, {"=SUM", "E:#NAME?"},
        // texts
        {"=\"a\"&\"b\"", "T:ab"}, {"=1.50&TRUE&A9&\"x\"", "T:1.5TRUEx"}, {"=A9&A9", "T:"}, {"=-0.5&\"\"", "T:-0.5"}, {"=1&2+3", "T:15"},
        {"=\"a\"\"b\"", "T:a\"b"}, {"=LEN(\"\"\"\")", "N:1"}, {"=\"" + "x".repeat(60) + "\"", "T:" + "x".repeat(60)},
        {"=\"" + "x".repeat(61) + "\"", "E:#VALUE!"}, {"=\"" + "x".repeat(60) + "\"&\"\"", "T:" + "x".repeat(60)},
        {"=\"" + "x".repeat(60) + "\"&1", "E:#VALUE!"}, {"=LEN({\"" + "x".repeat(61) + "\"})", "E:#VALUE!"},
        // comparisons
        {"=1<2", "B:TRUE"}, {"=2<=2", "B:TRUE"}, {"=1>=2", "B:FALSE"}, {"=1<>2", "B:TRUE"}, {"=1=1", "B:TRUE"}, {"=3>2", "B:TRUE"},
        {"=1<\"a\"", "B:TRUE"}, {"=\"zz\"<FALSE", "B:TRUE"}, {"=99<FALSE", "B:TRUE"}, {"=FALSE<TRUE", "B:TRUE"}, {"=\"a\"<\"b\"", "B:TRUE"},
        {"=\"a\"=\"A\"", "B:FALSE"}, {"=\"B\"<\"a\"", "B:TRUE"}, {"=\"ab\">\"a\"", "B:TRUE"}, {"=\"\"<\"a\"", "B:TRUE"}, {"=A9=0", "B:TRUE"},
        {"=A9=\"\"", "B:TRUE"}, {"=A9=FALSE", "B:TRUE"}, {"=A9=A8", "B:TRUE"}, {"=A9<\"a\"", "B:TRUE"}, {"=A9<TRUE", "B:TRUE"},
        {"=A9>-1", "B:TRUE"}, {"=A9<1", "B:TRUE"}, {"=1>A9", "B:TRUE"}, {"=-1>A9", "B:FALSE"}, {"=TRUE>A9", "B:TRUE"},
        {"=1<2<3", "B:FALSE"}, {"=1<2=TRUE", "B:TRUE"}, {"=\"1\"=1", "B:FALSE"}, {"=1+1&\"\"=\"2\"", "B:TRUE"},
        // functions of one value
        {"=ABS(-2.5)", "N:2.5"}, {"=ABS(TRUE)", "N:1"}, {"=ABS(A9)", "N:0"}, {"=ABS(\"a\")", "E:#VALUE!"}, {"=ABS(#REF!)", "E:#REF!"},
        {"=INT(2.7)", "N:2"}, {"=INT(-2.1)", "N:-3"}, {"=INT(-2)", "N:-2"}, {"=ROUND(2.5,0)", "N:3"}, {"=ROUND(-2.5,0)", "N:-3"},
        {"=ROUND(1.2345,3)", "N:1.235"}, {"=ROUND(1.2345,4)", "N:1.2345"}, {"=ROUND(1.2345,5)", "E:#NUM!"}, {"=ROUND(1.5,4.9)", "N:1.5"},
        {"=ROUND(55,-1)", "N:60"}, {"=ROUND(44500000000,-9)", "N:45000000000"}, {"=ROUND(44,-9.9)", "N:0"}, {"=ROUND(44,-10)", "E:#NUM!"},
        {"=ROUND(1.26,1.9)", "N:1.3"}, {"=ROUND(15,-0.5)", "N:15"}, {"=ROUND(\"a\",99)", "E:#VALUE!"}, {"=ROUND(1,#N/A)", "E:#N/A"},
        {"=ROUND(\"a\",#N/A)", "E:#N/A"}, {"=ROUND(90000000000,-9)", "N:90000000000"}, {"=MOD(7,3)", "N:1"}, {"=MOD(-7,3)", "N:2"},
        {"=MOD(7,-3)", "N:-2"}, {"=MOD(-7,-3)", "N:-1"}, {"=MOD(5.5,0.3)", "N:0.1"}, {"=MOD(1,0)", "E:#DIV/0!"}, {"=MOD(6,3)", "N:0"},
        {"=MOD(90000000000,0.0007)", "N:0.0004"}, {"=MOD(\"a\",0)", "E:#VALUE!"}, {"=NOT(0)", "B:TRUE"}, {"=NOT(0.5)", "B:FALSE"},
        {"=NOT(A9)", "B:TRUE"}, {"=NOT(\"a\")", "E:#VALUE!"}, {"=NOT(TRUE)", "B:FALSE"}, {"=LEN(\"abc\")", "N:3"}, {"=LEN(12.50)", "N:4"},
        {"=LEN(TRUE)", "N:4"}, {"=LEN(A9)", "N:0"}, {"=LEN(#N/A)", "E:#N/A"}, {"=UPPER(\"aBz{\")", "T:ABZ{"}, {"=UPPER(TRUE)", "T:TRUE"},
        {"=UPPER(1.5)", "T:1.5"}, {"=LEFT(\"abc\",2)", "T:ab"}, {"=LEFT(\"abc\",9)", "T:abc"}, {"=LEFT(\"abc\",0)", "T:"},
        {"=LEFT(\"abc\",-1)", "E:#VALUE!"}, {"=LEFT(\"abc\",-0.9)", "T:"}, {"=LEFT(\"abc\",1.9)", "T:a"}, {"=LEFT(123.5,4)", "T:123."},
        {"=LEFT(\"abc\",\"1\")", "E:#VALUE!"}, {"=LEFT(\"abc\",90000000000)", "T:abc"}, {"=RIGHT(\"abc\",2)", "T:bc"},
        {"=RIGHT(\"abc\",9)", "T:abc"}, {"=RIGHT(\"abc\",-1)", "E:#VALUE!"}, {"=RIGHT(TRUE,1)", "T:E"}, {"=RIGHT(\"abc\",0)", "T:"},
        {"=MID(\"abcdef\",2,3)", "T:bcd"}, {"=MID(\"abc\",3,9)", "T:c"}, {"=MID(\"abc\",4,1)", "T:"}, {"=MID(\"abc\",99,1)", "T:"},
        {"=MID(\"abc\",0,1)", "E:#VALUE!"}, {"=MID(\"abc\",0.9,1)", "E:#VALUE!"}, {"=MID(\"abc\",1.9,1)", "T:a"},
        {"=MID(\"abc\",1,-1)", "E:#VALUE!"}, {"=MID(\"abc\",#N/A,#REF!)", "E:#N/A"}, {"=MID(FALSE,TRUE,#N/A)", "E:#N/A"},
        {"=FIND(\"c\",\"abcabc\")", "N:3"}, {"=FIND(\"\",\"abc\")", "N:1"}, {"=FIND(\"x\",\"abc\")", "E:#VALUE!"}, {"=FIND(\"\",\"\")", "N:1"},
        {"=FIND(2,123)", "N:2"}, {"=FIND(\"abcd\",\"abc\")", "E:#VALUE!"}, {"=FIND(\"C\",\"abc\")", "E:#VALUE!"}, {"=FIND(\"ab\",\"aab\")", "N:2"},
        {"=FIND(A9,1)", "N:1"}, {"=FIND(1.5,-1.5)", "N:2"},
        // sums
        {"=SUM(1,2,3)", "N:6"}, {"=SUM(A1:A5)", "N:6.5"}, {"=SUM(A1:A6)", "E:#DIV/0!"}, {"=SUM(\"1\")", "E:#VALUE!"}, {"=SUM(TRUE,A4,A1)", "N:2"},
        {"=SUM((A4))", "N:0"}, {"=SUM(((A4)),1)", "N:1"}, {"=SUM(+A4)", "E:#VALUE!"}, {"=SUM(A4%)", "E:#VALUE!"}, {"=SUM(-(A4))", "E:#VALUE!"},
        {"=SUM(A5)", "N:0"}, {"=SUM(+A5)", "N:1"}, {"=SUM(A9)", "N:0"}, {"=SUM(+A9)", "N:0"}, {"=SUM({1,\"a\",TRUE})", "N:1"},
        {"=SUM(IF(TRUE,A5))", "N:1"}, {"=SUM(LET(X,A5,X))", "N:1"}, {"=SUM(\"a\",#N/A)", "E:#VALUE!"}, {"=SUM(#N/A,\"a\")", "E:#N/A"},
        {"=SUM({1,#REF!},\"a\")", "E:#REF!"}, {"=SUM(90000000000,90000000000,#N/A)", "E:#N/A"}, {"=SUM(90000000000,1,-1)", "E:#NUM!"},
        {"=SUM(-1,90000000000,1)", "N:90000000000"}, {"=SUM(LAMBDA(1))", "E:#CALC!"}, {"=SUM(\"a\",LAMBDA(1))", "E:#VALUE!"},
        {"=SUM(LAMBDA(1),#N/A)", "E:#CALC!"}, {"=MIN(A1:B3)", "N:-30"}, {"=MAX(A1:B3,50)", "N:50"}, {"=MIN(A4,A9)", "N:0"}, {"=MAX(-5,A4)", "N:-5"},
        {"=MIN(5,+A9)", "N:0"}, {"=MIN(5,A9)", "N:5"}, {"=MAX(A4:A5)", "N:0"}, {"=MIN(TRUE,3)", "N:1"}, {"=COUNT(A1:B6,\"x\",1)", "N:7"},
        {"=COUNT(A1:A6)", "N:3"}, {"=COUNT(TRUE)", "N:1"}, {"=COUNT(A5)", "N:0"}, {"=COUNT(#N/A,\"a\",2)", "N:1"}, {"=COUNT(+A9)", "N:1"},
        {"=COUNT(LAMBDA(1))", "E:#CALC!"}, {"=COUNTA(A1:A9)", "N:6"}, {"=COUNTA(#N/A,1,\"\")", "N:3"}, {"=COUNTA(A9)", "N:0"}, {"=COUNTA(A9&\"\")", "N:1"},
        {"=AVERAGE(1,2,4)", "N:2.3333"}, {"=AVERAGE(A1:A5)", "N:2.1667"}, {"=AVERAGE(A4)", "E:#DIV/0!"}, {"=AVERAGE(-1,-1,-2)", "N:-1.3333"},
        {"=PRODUCT(2,3,4)", "N:24"}, {"=PRODUCT(A4)", "N:0"}, {"=PRODUCT(0.01,0.01,0.5,10000)", "N:1"}, {"=PRODUCT(300000,400000,0)", "E:#NUM!"},
        {"=PRODUCT(300000,400000,#N/A)", "E:#N/A"}, {"=PRODUCT(A1:A3)", "N:7"}, {"=AND(1,TRUE)", "B:TRUE"}, {"=AND(1,0)", "B:FALSE"},
        {"=AND(A4)", "B:TRUE"}, {"=OR(A4)", "B:FALSE"}, {"=OR(A1:A5)", "B:TRUE"}, {"=AND(\"a\")", "E:#VALUE!"}, {"=OR(TRUE,\"a\")", "E:#VALUE!"},
        {"=OR(TRUE,A6)", "E:#DIV/0!"}, {"=AND(+A9)", "B:FALSE"}, {"=AND(A9)", "B:TRUE"}, {"=OR(B5,0)", "B:FALSE"}, {"=AND(A5,2)", "B:TRUE"},
        // choices
        {"=IF(1,2,3)", "N:2"}, {"=IF(0,2,3)", "N:3"}, {"=IF(FALSE,2)", "B:FALSE"}, {"=IF(A9,2,3)", "N:3"}, {"=IF(\"a\",2,3)", "E:#VALUE!"},
        {"=IF(#N/A,2,3)", "E:#N/A"}, {"=IF(LAMBDA(1),2,3)", "E:#CALC!"}, {"=IF(TRUE,1,#N/A)", "N:1"}, {"=IF(FALSE,1/0,5)", "N:5"},
        {"=IF(TRUE,A9)", "0:"}, {"=SUM(IF({1,0,1},{1,2,3},10))", "N:14"}, {"=SUM(IF({1,0},1))", "N:1"}, {"=COUNT(IF({1,0},1))", "N:1"},
        {"=IF({\"a\"},1,2)", "E:#VALUE!"}, {"=IF({#REF!},1,2)", "E:#REF!"}, {"=IF({1},LAMBDA(1),2)", "E:#CALC!"}, {"=IF({0},LAMBDA(1),2)", "N:2"},
        {"=INDEX(IF({1;1;1},{1;2;3},{1;2}),3,1)", "N:3"}, {"=INDEX(IF({1;0;0},{1;2;3},{1;2}),3,1)", "E:#N/A"}, {"=INDEX(IF({1;1},{1;2;3},9),3,1)", "E:#N/A"},
        {"=IFERROR(1/0,7)", "N:7"}, {"=IFERROR(1,7)", "N:1"}, {"=IFERROR(#N/A,#REF!)", "E:#REF!"}, {"=IFERROR(5,1/0)", "N:5"},
        {"=SUM(IFERROR({1,#N/A,3},10))", "N:14"}, {"=IFERROR(LAMBDA(X,X),1)(5)", "N:5"}, {"=INDEX(IFERROR({1;2},{7;8;9}),3,1)", "N:9"},
        {"=CHOOSE(2,\"a\",\"b\")", "T:b"}, {"=CHOOSE(0,1)", "E:#VALUE!"}, {"=CHOOSE(2,1)", "E:#VALUE!"}, {"=CHOOSE(1.9,1,2)", "N:1"}, {"=CHOOSE(TRUE,5)", "N:5"},
        {"=CHOOSE({1},5)", "E:#VALUE!"}, {"=CHOOSE(#N/A,5)", "E:#N/A"}, {"=CHOOSE(\"a\",5)", "E:#VALUE!"}, {"=CHOOSE(LAMBDA(1),5)", "E:#CALC!"},
        {"=CHOOSE(1,5,1/0)", "N:5"}, {"=CHOOSE(8,1,2,3,4,5,6,7,8)", "N:8"}, {"=SUM(CHOOSE(1,A1:A3))", "N:6.5"}, {"=CHOOSE(1,LAMBDA(X,X))(4)", "N:4"},
        // arrays
        {"=A1:A3*2", "N:2"}, {"=SUM(A1:A3*2)", "N:13"}, {"=SUM({1,2}*{10;20})", "N:90"}, {"=ROWS({1,2}*{10;20})", "N:2"}, {"=INDEX({1,2,3}+{1,2},1,3)", "E:#N/A"},
        {"=INDEX({1,2,3}+{1,2},0,2)", "N:4"}, {"=INDEX({1,2,#REF!}+{1,2},1,3)", "E:#REF!"}, {"=INDEX({1,2}+{1,2,#REF!},1,3)", "E:#N/A"},
        {"={1,2}+LAMBDA(1)", "E:#CALC!"}, {"=COUNTA({1,2}&LAMBDA(1))", "N:2"}, {"=SUM(-{1,2})", "N:-3"}, {"=SUM({100,200}%)", "N:3"}, {"=SUM(ABS({-1,-2}))", "N:3"},
        {"=SUM(LEN({\"a\",\"bc\"}))", "N:3"}, {"=SUM(ROUND({1.26;2.34},{1,0}))", "N:6.6"}, {"=SUM(FIND({\"a\",\"b\"},\"ab\"))", "N:3"},
        {"=INDEX(MID(\"abc\",{1,2,3},1),1,2)", "T:b"}, {"=ROWS(A1:B3)", "N:3"}, {"=COLUMNS(B3:A1)", "N:2"}, {"=ROWS(5)", "N:1"}, {"=ROWS(#N/A)", "E:#N/A"},
        {"=ROWS({#N/A})", "N:1"}, {"=ROWS(LAMBDA(1))", "E:#CALC!"}, {"=ROWS(A6)", "E:#DIV/0!"}, {"=INDEX(TRANSPOSE({1,2;3,4}),1,2)", "N:3"}, {"=ROWS(TRANSPOSE(A1:A3))", "N:1"},
        {"=TRANSPOSE(5)", "N:5"}, {"=INDEX(A1:B3,2,2)", "N:20"}, {"=INDEX(A1:B3,0,1)", "E:#REF!"}, {"=INDEX(A1:A3,2,0)", "N:2"}, {"=INDEX(A1:B1,0,2)", "N:10"},
        {"=INDEX(A1:B3,4,1)", "E:#REF!"}, {"=INDEX(A1:B3,1,-1)", "E:#REF!"}, {"=INDEX(5,1,1)", "N:5"}, {"=INDEX(5,0,0)", "N:5"}, {"=INDEX(A1:A6,6,1)", "E:#DIV/0!"},
        {"=INDEX(A1:B3,{2,3},1)", "N:2"}, {"=INDEX(A1:B3,1.9,1)", "N:1"}, {"=INDEX(A1:B3,\"a\",1)", "E:#VALUE!"}, {"=INDEX(A1:B3,\"a\",#N/A)", "E:#N/A"},
        {"=MATCH(2,A1:A6)", "N:2"}, {"=MATCH(\"abc\",A1:A6)", "N:4"}, {"=MATCH(7,A1:A6)", "E:#N/A"}, {"=MATCH(10,A1:B1)", "N:2"}, {"=MATCH(1,A1:B3)", "E:#N/A"},
        {"=MATCH(5,5)", "N:1"}, {"=MATCH(0,A7:A9)", "N:1"}, {"=MATCH(#REF!,A1:A6)", "E:#REF!"}, {"=MATCH(A9,A1:A9)", "N:7"}, {"=MATCH({3.5,1},A1:A6)", "N:3"},
        {"=MATCH(1,#N/A)", "E:#N/A"}, {"=SUM(SEQUENCE(2,3,1,1))", "N:21"}, {"=INDEX(SEQUENCE(2,3,1,2),2,1)", "N:7"}, {"=SEQUENCE(0,1,1,1)", "E:#CALC!"},
        {"=IFERROR(SEQUENCE(0.9,1,1,1),4)", "N:4"}, {"=ROWS(SEQUENCE(2.9,1,1,1))", "N:2"}, {"=SEQUENCE(1,\"a\",1,1)", "E:#VALUE!"}, {"=SEQUENCE(-1,#N/A,1,1)", "E:#N/A"},
        {"=INDEX(SEQUENCE(3,1,90000000000,0.5),2,1)", "E:#NUM!"}, {"=INDEX(SORT({3;1;2}),1,1)", "N:1"}, {"=INDEX(SORT({3,1,2}),1,1)", "N:3"},
        {"=INDEX(SORT({2,1;1,2;2,3;1,4}),2,2)", "N:4"}, {"=INDEX(SORT({TRUE;\"a\";5;#REF!;#N/A}),1,1)", "N:5"}, {"=INDEX(SORT({TRUE;\"a\";5;#REF!;#N/A}),4,1)", "E:#REF!"},
        {"=INDEX(SORT(D1:D7),1,1)", "0:"}, {"=INDEX(SORT(D1:D7),2,1)", "N:1"}, {"=INDEX(SORT(D1:D7),4,1)", "T:a"}, {"=INDEX(SORT(D1:D7),6,1)", "B:TRUE"},
        {"=INDEX(SORT(D1:D7),7,1)", "E:#N/A"}, {"=SORT(5)", "N:5"}, {"=SUM(SORT(\"a\"))", "E:#VALUE!"}, {"=SORT(#N/A)", "E:#N/A"}, {"=ROWS(UNIQUE({1;2;1;\"1\"}))", "N:3"},
        {"=ROWS(UNIQUE({1,2;1,3;1,2}))", "N:2"}, {"=ROWS(UNIQUE({#N/A;#REF!;#N/A}))", "N:2"}, {"=ROWS(UNIQUE(A7:A9))", "N:1"}, {"=SUM(UNIQUE(TRUE))", "N:1"},
        {"=ROWS(UNIQUE({\"a\";\"A\"}))", "N:2"}, {"=SUM(FILTER(A1:A3,B1:B3>0))", "N:3"}, {"=COLUMNS(FILTER(A1:B3,B1:B3>0))", "N:2"}, {"=FILTER(A1:A3,B1:B3>99)", "E:#CALC!"},
        {"=FILTER(A1:A3,B1:B2>0)", "E:#VALUE!"}, {"=FILTER(A1:A3,A1:B3>0)", "E:#VALUE!"}, {"=FILTER(A1:A3,{1;\"a\";1})", "E:#VALUE!"}, {"=FILTER(A1:A3,{1;#REF!;1})", "E:#REF!"},
        {"=SUM(FILTER(A1:A3,{1;0;2}))", "N:4.5"}, {"=FILTER(5,TRUE)", "N:5"}, {"=FILTER(5,FALSE)", "E:#CALC!"}, {"=SUM(FILTER(TRUE,1))", "N:1"}, {"=SUM(FILTER({1,2,3},TRUE))", "N:6"},
        {"=VLOOKUP(2,A1:B4,2)", "N:20"}, {"=VLOOKUP(2,A1:B4,3)", "E:#REF!"}, {"=VLOOKUP(9,A1:B4,2)", "E:#N/A"}, {"=VLOOKUP(9,A1:B4,0)", "E:#REF!"}, {"=VLOOKUP(\"abc\",A1:B4,2)", "T:x"},
        {"=VLOOKUP(2,A1:B4,1.9)", "N:2"}, {"=VLOOKUP(#N/A,A1:B4,2)", "E:#N/A"}, {"=VLOOKUP(2,A1:B4,\"a\")", "E:#VALUE!"}, {"=VLOOKUP(0,A7:B9,1)", "0:"}, {"=VLOOKUP(5,5,1)", "N:5"},
        {"=SUMIF(A1:A4,2,B1:B4)", "N:20"}, {"=SUMIF({1;1;2},1,{5;\"a\";7})", "N:5"}, {"=SUMIF({1;1},1,{5;#N/A})", "N:5"}, {"=SUMIF({1;#N/A},1,{5;6})", "N:5"},
        {"=SUMIF(A1:A4,2,B1:B3)", "E:#VALUE!"}, {"=SUMIF(A1:A2,#REF!,B1:B2)", "E:#REF!"}, {"=SUMIF(5,5,7)", "N:7"}, {"=SUMIF({1;1},1,{90000000000;1})", "E:#NUM!"}, {"=SUMIF(A7:A9,0,{1;2;3})", "N:6"},
        // words
        {"=LET(X,2,X*X)", "N:4"}, {"=LET(X,2,Y,X+1,X*Y)", "N:6"}, {"=LET(X,1,X,X+1,X)", "N:2"}, {"=LET(X,1,LET(X,2,X)+X)", "N:3"}, {"=LET(X,#N/A,5)", "N:5"}, {"=LET(X,#N/A,X)", "E:#N/A"},
        {"=LET(X,X,5)", "N:5"}, {"=LET(X,X,X)", "E:#NAME?"}, {"=LET(F,LAMBDA(X,X+1),F(F(1)))", "N:3"}, {"=LET(SUM,5,SUM+SUM(1,2))", "N:8"}, {"=LET(X,A1:A3,SUM(X))", "N:6.5"},
        {"=LAMBDA(X,X)", "E:#CALC!"}, {"=LAMBDA(X,X*2)(5)", "N:10"}, {"=LAMBDA(5)()", "N:5"}, {"=LAMBDA(X,5)()", "E:#VALUE!"}, {"=LAMBDA(5)(1)", "E:#VALUE!"}, {"=LAMBDA(X,Y,X-Y)(5,3)", "N:2"},
        {"=LAMBDA(X,LAMBDA(Y,X-Y))(5)(3)", "N:2"}, {"=LET(X,1,F,LAMBDA(Y,X+Y),LET(X,100,F(1)))", "N:2"}, {"=LAMBDA(X,X,X)(1,2)", "N:2"}, {"=LAMBDA(X,1)+1", "E:#CALC!"},
        {"=#REF!+LAMBDA(1)", "E:#REF!"}, {"=LAMBDA(1)+#REF!", "E:#CALC!"}, {"=5(1)", "E:#VALUE!"}, {"=#N/A(1)", "E:#N/A"}, {"=\"a\"()", "E:#VALUE!"}, {"={1}(1)", "E:#VALUE!"},
        {"=A4(1)", "E:#VALUE!"}, {"=A6(1)", "E:#DIV/0!"}, {"=5(1/0)", "E:#VALUE!"}, {"=(+LAMBDA(X,X))(3)", "N:3"}, {"=IF(TRUE,LAMBDA(X,X))(3)", "N:3"}, {"=LAMBDA(X,IFERROR(X,9))(1/0)", "N:9"},
        {"=SUM(MAP(A1:A3,LAMBDA(X,X*10)))", "N:65"}, {"=MAP(5,LAMBDA(X,X*10))", "N:50"}, {"=MAP(5,5)", "E:#VALUE!"}, {"=MAP(5,#REF!)", "E:#REF!"}, {"=MAP(#N/A,LAMBDA(X,1))", "E:#N/A"},
        {"=MAP({#N/A},LAMBDA(X,IFERROR(X,1)))", "N:1"}, {"=MAP({1},LAMBDA(X,{7,8}))", "N:7"}, {"=COLUMNS(MAP(1,LAMBDA(X,{7,8})))", "N:1"}, {"=MAP({1},LAMBDA(X,LAMBDA(1)))", "E:#CALC!"},
        {"=MAP({1},LAMBDA(1))", "E:#VALUE!"}, {"=MAP(LAMBDA(1),LAMBDA(X,1))", "E:#CALC!"}, {"=REDUCE(0,A1:A3,LAMBDA(A_,B_,A_+B_))", "N:6.5"}, {"=REDUCE(\"\",{1,2;3,4},LAMBDA(A_,B_,A_&B_))", "T:1234"},
        {"=REDUCE(1,5,LAMBDA(A_,B_,A_-B_))", "N:-4"}, {"=SUM(REDUCE(0,{1,2},LAMBDA(A_,B_,A_+{1,1})))", "N:4"}, {"=REDUCE(0,{1,#N/A},LAMBDA(A_,B_,IFERROR(B_,9)))", "N:9"},
        {"=REDUCE(0,{1,2},LAMBDA(A_,A_))", "E:#VALUE!"}, {"=REDUCE(#REF!,{1,2},LAMBDA(A_,B_,5))", "E:#REF!"}, {"=REDUCE(0,{1,2},7)", "E:#VALUE!"},
        {"=REDUCE(0,{1},LAMBDA(A_,B_,LAMBDA(C_,C_+1)))(4)", "N:5"}, {"=INDEX(MAKEARRAY(2,3,LAMBDA(R_,C_,R_*10+C_)),2,3)", "N:23"}, {"=MAKEARRAY(0,3,LAMBDA(R_,C_,1))", "E:#CALC!"},
        {"=MAKEARRAY(1,1,7)", "E:#VALUE!"}, {"=MAKEARRAY(1,1,LAMBDA(R_,1))", "E:#VALUE!"}, {"=ROWS(MAKEARRAY(2.9,1,LAMBDA(R_,C_,1)))", "N:2"}, {"=MAKEARRAY(\"a\",1,LAMBDA(R_,C_,1))", "E:#VALUE!"},
        {"=MAKEARRAY({2,3},1,LAMBDA(R_,C_,R_+{0,9}))", "N:1"}, {"=SUM(MAKEARRAY({2,3},1,LAMBDA(R_,C_,R_+{0,9})))", "N:3"},
    };

    private static void hanging() {
        Bench b = new Bench("hanging");
        b.with("A1", "=B1", "B1", "=A1", "C1", "=IFERROR(A1,5)", "D1", "=IF(TRUE,1,D1)", "E1", "=F1", "F1", "=COLUMNS(E1:G1)");
        b.dueValue("A1", "E:#CIRC!");
        b.dueValue("B1", "E:#CIRC!");
        b.dueValue("C1", "N:5");
        b.dueValue("D1", "E:#CIRC!");
        b.dueValue("E1", "E:#CIRC!");
        b.dueValue("F1", "E:#CIRC!");
        b.with("B1", "3");
        b.dueValue("A1", "N:3");
        b.dueValue("C1", "N:3");
        b.with("A3", "=X", "B3", "=Y", "C3", "=LAMBDA(X,5)(1)", "D3", "=LAMBDA(X,X)(1)", "E3", "=LET(X,1,2)");
        b.name("Y=X+1");
        b.name("X=A3");
        b.dueValue("A3", "E:#CIRC!");
        b.dueValue("B3", "E:#CIRC!");
        b.dueValue("C3", "N:5");
        b.dueValue("D3", "N:1");
        b.with("F3", "=LAMBDA(X,X)(1)");
        b.name("X=F3");
        b.dueValue("F3", "E:#CIRC!");
        b.dueValue("E3", "N:2");
        b.name("X=4");
        b.dueValue("F3", "N:1");
        b.dueValue("B3", "N:5");
        for (int k = 2; k <= 80; k++) {
            b.with("H" + k, "=H" + (k - 1) + "+1");
        }
        b.with("H1", "1");
        b.dueValue("H80", "N:80");
        b.due("a long chain", () -> b.grid.count(4), 79);
        b.with("H1", "=H80");
        b.dueValue("H40", "E:#CIRC!");
        b.with("H41", "2");
        b.dueValue("H80", "N:41");
        b.dueValue("H40", "N:80");
    }

    public static void main(String[] args) {
        for (String[] x : DUE) {
            Bench b = new Bench("formulas").with(SHEET).with("Z80", x[0]);
            b.dueValue("Z80", x[1]);
        }
        hanging();
        Bench.end("FormulasTest");
    }
}
