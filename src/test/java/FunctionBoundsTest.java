/** The range of what each function takes: the last value within it, the first beyond it, and what an array counts for. */
public final class FunctionBoundsTest {
    private static final String[] SHEET = {
        "A1", "1", "A2", "2", "A3", "3.5", "A4", "abc", "A5", "TRUE", "A6", "=1/0",
        "B1", "10", "B2", "20", "B3", "-30", "B4", "'x", "B5", "FALSE"};

    private static final String X60 = "\"" + "x".repeat(60) + "\"";

    private static final String[][] WHOLE_NUMBERS = {
        // ABS, INT (not above it)
        {"=ABS(0)", "N:0"}, {"=ABS(-0.0001)", "N:0.0001"}, {"=ABS(Z9)", "N:0"}, {"=ABS(FALSE)", "N:0"}, {"=ABS(\"\")", "E:#VALUE!"},
        {"=INT(0.9999)", "N:0"}, {"=INT(-0.0001)", "N:-1"}, {"=INT(1)", "N:1"}, {"=INT(-1)", "N:-1"}, {"=INT(-1.0001)", "N:-2"},
        {"=INT(90000000000)", "N:90000000000"}, {"=INT(-90000000000)", "N:-90000000000"},
        // ROUND: n cut to whole, -9 .. 4
        {"=ROUND(1.2345,4)", "N:1.2345"}, {"=ROUND(1.2345,4.9999)", "N:1.2345"}, {"=ROUND(1.2345,5)", "E:#NUM!"},
        {"=ROUND(5000000000,-9)", "N:5000000000"}, {"=ROUND(500000000,-9)", "N:1000000000"}, {"=ROUND(499999999.9999,-9)", "N:0"},
        {"=ROUND(-500000000,-9.9999)", "N:-1000000000"}, {"=ROUND(5,-10)", "E:#NUM!"}, {"=ROUND(5,90000000000)", "E:#NUM!"},
        {"=ROUND(5,-90000000000)", "E:#NUM!"}, {"=ROUND(0.5,0)", "N:1"}, {"=ROUND(0.4999,0)", "N:0"}, {"=ROUND(-0.5,0)", "N:-1"},
        {"=ROUND(-0.4999,0)", "N:0"}, {"=ROUND(0.5,0.9999)", "N:1"}, {"=ROUND(0.5,-0.9999)", "N:1"}, {"=ROUND(4.9999,-1)", "N:0"},
        {"=ROUND(5,-1)", "N:10"}, {"=ROUND(0.0005,3)", "N:0.001"}, {"=ROUND(0.0004,3)", "N:0"}, {"=ROUND(1.5,Z9)", "N:2"},
        {"=ROUND(1.25,TRUE)", "N:1.3"}, {"=ROUND(1,\"\")", "E:#VALUE!"}, {"=ROUND(\"\",5)", "E:#VALUE!"}, {"=ROUND(#N/A,5)", "E:#N/A"},
        // MOD: y 0
        {"=MOD(5,0)", "E:#DIV/0!"}, {"=MOD(0,0)", "E:#DIV/0!"}, {"=MOD(5,Z9)", "E:#DIV/0!"}, {"=MOD(5,FALSE)", "E:#DIV/0!"},
        {"=MOD(5,0.0001)", "N:0"}, {"=MOD(0,5)", "N:0"}, {"=MOD(-0.0001,5)", "N:4.9999"}, {"=MOD(0.0001,-5)", "N:-4.9999"},
        {"=MOD(5,5)", "N:0"}, {"=MOD(4.9999,5)", "N:4.9999"}, {"=MOD(-5,5)", "N:0"}, {"=MOD(-5,-3)", "N:-2"}, {"=MOD(\"a\",0)", "E:#VALUE!"},
        {"=MOD(90000000000,0.0001)", "N:0"}, {"=MOD(#N/A,0)", "E:#N/A"},
        // NOT, LEN, UPPER
        {"=NOT(0)", "B:TRUE"}, {"=NOT(0.0001)", "B:FALSE"}, {"=NOT(-0.0001)", "B:FALSE"}, {"=NOT(Z9)", "B:TRUE"}, {"=NOT(\"\")", "E:#VALUE!"},
        {"=LEN(Z9)", "N:0"}, {"=LEN(\"\")", "N:0"}, {"=LEN(" + X60 + ")", "N:60"}, {"=LEN(-90000000000)", "N:12"},
        {"=LEN(-12345678901.2345)", "N:17"}, {"=LEN(0.0001)", "N:6"}, {"=UPPER(Z9)", "T:"}, {"=UPPER(\"azAZ`{@[\")", "T:AZAZ`{@["},
    };

    private static final String[][] TEXTS = {
        // LEFT, RIGHT: n cut to whole, below 0
        {"=LEFT(\"abc\",0)", "T:"}, {"=LEFT(\"abc\",0.9999)", "T:"}, {"=LEFT(\"abc\",1)", "T:a"}, {"=LEFT(\"abc\",3)", "T:abc"},
        {"=LEFT(\"abc\",4)", "T:abc"}, {"=LEFT(\"abc\",-0.9999)", "T:"}, {"=LEFT(\"abc\",-1)", "E:#VALUE!"}, {"=LEFT(\"abc\",Z9)", "T:"},
        {"=LEFT(\"abc\",TRUE)", "T:a"}, {"=LEFT(\"abc\",\"\")", "E:#VALUE!"}, {"=LEFT(Z9,5)", "T:"}, {"=LEFT(" + X60 + ",90000000000)", "T:" + "x".repeat(60)},
        {"=RIGHT(\"abc\",0)", "T:"}, {"=RIGHT(\"abc\",0.9999)", "T:"}, {"=RIGHT(\"abc\",1)", "T:c"}, {"=RIGHT(\"abc\",3)", "T:abc"},
        {"=RIGHT(\"abc\",4)", "T:abc"}, {"=RIGHT(\"abc\",-0.9999)", "T:"}, {"=RIGHT(\"abc\",-1)", "E:#VALUE!"}, {"=RIGHT(1.50,1)", "T:5"},
        // MID: i from 1, n from 0
        {"=MID(\"abc\",1,3)", "T:abc"}, {"=MID(\"abc\",1,4)", "T:abc"}, {"=MID(\"abc\",3,1)", "T:c"}, {"=MID(\"abc\",3,2)", "T:c"},
        {"=MID(\"abc\",4,1)", "T:"}, {"=MID(\"abc\",90000000000,1)", "T:"}, {"=MID(\"abc\",1,90000000000)", "T:abc"}, {"=MID(\"abc\",1,0)", "T:"},
        {"=MID(\"abc\",1.9999,1.9999)", "T:a"}, {"=MID(\"abc\",0,1)", "E:#VALUE!"}, {"=MID(\"abc\",0.9999,1)", "E:#VALUE!"},
        {"=MID(\"abc\",-1,1)", "E:#VALUE!"}, {"=MID(\"abc\",1,-0.9999)", "T:"}, {"=MID(\"abc\",1,-1)", "E:#VALUE!"}, {"=MID(\"abc\",Z9,1)", "E:#VALUE!"},
        {"=MID(\"abc\",\"\",#REF!)", "E:#REF!"}, {"=MID(#N/A,0,-1)", "E:#N/A"},
        // FIND: first, from 1
        {"=FIND(\"a\",\"aa\")", "N:1"}, {"=FIND(\"c\",\"abc\")", "N:3"}, {"=FIND(\"abc\",\"abc\")", "N:1"}, {"=FIND(\"abcd\",\"abc\")", "E:#VALUE!"},
        {"=FIND(\"\",\"\")", "N:1"}, {"=FIND(\"\",\"abc\")", "N:1"}, {"=FIND(\"a\",\"\")", "E:#VALUE!"}, {"=FIND(Z9,Z9)", "N:1"},
        {"=FIND(\"bb\",\"abab\")", "E:#VALUE!"}, {"=FIND(\"x\"," + X60 + ")", "N:1"}, {"=FIND(\"y\"," + X60 + ")", "E:#VALUE!"}, {"=FIND(\"RU\",TRUE)", "N:2"},
    };

    private static final String[][] SUMS = {
        // of 1 to 8 a; none; those that are passed over
        {"=SUM(1,2,3,4,5,6,7,8)", "N:36"}, {"=MIN(8,7,6,5,4,3,2,1)", "N:1"}, {"=MAX(1,2,3,4,5,6,7,8)", "N:8"}, {"=COUNT(1,2,3,4,5,6,7,8)", "N:8"},
        {"=AVERAGE(1,2,3,4,5,6,7,8)", "N:4.5"}, {"=PRODUCT(1,2,3,4,5,6,7,8)", "N:40320"}, {"=AND(1,1,1,1,1,1,1,0)", "B:FALSE"},
        {"=OR(0,0,0,0,0,0,0,1)", "B:TRUE"}, {"=COUNTA(1,\"\",TRUE,#N/A,5,6,7,8)", "N:8"},
        {"=SUM(A4:A5)", "N:0"}, {"=MIN(A4:A5)", "N:0"}, {"=MAX(A4)", "N:0"}, {"=COUNT(A4:A5)", "N:0"}, {"=AVERAGE(A4:A5)", "E:#DIV/0!"},
        {"=PRODUCT(A4:A5)", "N:0"}, {"=AND(A4)", "B:TRUE"}, {"=OR(A4)", "B:FALSE"}, {"=AND(Z9:Z10)", "B:TRUE"}, {"=COUNTA(Z9:Z10)", "N:0"},
        {"=AND(A4:A5)", "B:TRUE"}, {"=AND(B4:B5)", "B:FALSE"}, {"=OR(B4:B5)", "B:FALSE"}, {"=OR(A4:A5)", "B:TRUE"},
        {"=SUM(A6)", "E:#DIV/0!"}, {"=COUNT(A6)", "N:0"}, {"=COUNTA(A6)", "N:1"}, {"=COUNTA(A1:A7)", "N:6"}, {"=COUNT(A1:A7)", "N:3"},
        {"=COUNT(#N/A)", "N:0"}, {"=COUNTA(#N/A)", "N:1"}, {"=COUNT(\"1\")", "N:0"}, {"=COUNT(TRUE,1)", "N:2"}, {"=COUNT({TRUE,1})", "N:1"},
        {"=COUNT(LAMBDA(1))", "E:#CALC!"}, {"=COUNTA(1,LAMBDA(1))", "E:#CALC!"},
        // the first in order of what is an error, a function, or can not be as needed
        {"=SUM(\"a\",#N/A,LAMBDA(1))", "E:#VALUE!"}, {"=SUM(#N/A,\"a\",LAMBDA(1))", "E:#N/A"}, {"=SUM(LAMBDA(1),#N/A,\"a\")", "E:#CALC!"},
        {"=SUM({1,2;#REF!,#NUM!},#N/A)", "E:#REF!"}, {"=SUM(A1:A6,#N/A)", "E:#DIV/0!"}, {"=MAX(A4,#NUM!,A6)", "E:#NUM!"}, {"=AND(0,\"a\")", "E:#VALUE!"},
        {"=OR(1,#N/A)", "E:#N/A"}, {"=SUM(90000000000,1,#N/A)", "E:#N/A"}, {"=PRODUCT(90000000000,2,\"a\")", "E:#VALUE!"},
        {"=IFERROR(SUM(90000000000,1),5)+SUM(1,2)", "N:8"}, {"=IFERROR(PRODUCT(90000000000,2),5)+PRODUCT(1,2)", "N:7"}, {"=IFERROR(SUM(90000000000,1),5)+AVERAGE(1,2)", "N:6.5"},
        {"=IFERROR(SUM(#N/A),5)+SUM(1,2)", "N:8"}, {"=SUM(7,8)+SUM(A4)+MAX(-1,-2)+COUNT(1)", "N:15"}, {"=SUM(5)+SUMIF({1},1,{2})+SUM(1)", "N:8"}, {"=IFERROR(SUMIF({1;1},1,{90000000000;1}),5)+SUMIF({1;1},1,{2;1})", "N:8"},
        // an average is not too great where just the sum would be
        {"=AVERAGE(90000000000,90000000000)", "N:90000000000"}, {"=AVERAGE(-90000000000,-90000000000)", "N:-90000000000"},
        {"=AVERAGE(90000000000,90000000000,-90000000000)", "N:30000000000"}, {"=AVERAGE(90000000000,89999999999.9999)", "N:90000000000"},
        {"=LET(S,SEQUENCE(2080,1,90000000000,0),AVERAGE(S,S,S,S,S,S,S,S))", "N:90000000000"},
        {"=LET(S,SEQUENCE(2080,1,-90000000000,0),AVERAGE(S,S,S,S,S,S,S,S))", "N:-90000000000"}, {"=AVERAGE(90000000000,1,#N/A)", "E:#N/A"},
        {"=AVERAGE(1,-1.0001)", "N:-0.0001"}, {"=AVERAGE(-1,1.0001)", "N:0.0001"}, {"=AVERAGE(3,-0.0001)", "N:1.5"}, {"=AVERAGE(-3,0.0001)", "N:-1.5"},
        {"=AVERAGE(2,0.0001,0.0001)", "N:0.6667"}, {"=AVERAGE(-2,-0.0001,-0.0001)", "N:-0.6667"}, {"=AVERAGE(-2,1,0)", "N:-0.3333"}, {"=AVERAGE(1,-1)", "N:0"},
        {"=AVERAGE(-0.0002,0.0001)", "N:-0.0001"}, {"=AVERAGE(0.0001,0,0,-0.0002)", "N:0"}, {"=IFERROR(SUM(90000000000,1),5)+AVERAGE(1.5,2)+AVERAGE(1.5,2)", "N:8.5"},
        // a cell in ( ) is one, with a sign it is none
        {"=SUM(A5)", "N:0"}, {"=SUM((A5))", "N:0"}, {"=SUM(((A5)))", "N:0"}, {"=SUM(+A5)", "N:1"}, {"=SUM(-A5)", "N:-1"}, {"=SUM((+A5))", "N:1"},
        {"=SUM(+(A5))", "N:1"}, {"=SUM(A5%)", "N:0.01"}, {"=SUM((A5)%)", "N:0.01"}, {"=SUM(A4)", "N:0"}, {"=SUM(+A4)", "E:#VALUE!"}, {"=COUNT(+Z9)", "N:1"},
        {"=SUM(A4&A4)", "E:#VALUE!"}, {"=SUM(A1=A1)", "N:1"}, {"=SUM((A1=A1))", "N:1"}, {"=SUM(A1:A1=A1)", "N:0"}, {"=AND(A4&A4)", "E:#VALUE!"}, {"=SUM(A1<>A1,A1>=A1)", "N:1"},
        {"=COUNT(Z9)", "N:0"}, {"=AND(+Z9)", "B:FALSE"}, {"=AND(Z9)", "B:TRUE"}, {"=SUM(A5:A5)", "N:0"}, {"=SUM(IF(1,A5))", "N:1"}, {"=SUM(CHOOSE(1,A5))", "N:1"},
    };

    private static final String[][] CHOICES = {
        // IF: truths; what is not chosen is not worked out
        {"=IF(0.0001,1,2)", "N:1"}, {"=IF(-1,1,2)", "N:1"}, {"=IF(0,1,2)", "N:2"}, {"=IF(Z9,1,2)", "N:2"}, {"=IF(\"\",1,2)", "E:#VALUE!"},
        {"=IF(\"TRUE\",1,2)", "E:#VALUE!"}, {"=IF(0,1)", "B:FALSE"}, {"=IF(1,#N/A,2)", "E:#N/A"}, {"=IF(1,2,#N/A)", "N:2"}, {"=IF(#N/A,1,2)", "E:#N/A"},
        {"=IF(LAMBDA(1),1,2)", "E:#CALC!"}, {"=IF(1,5,SEQUENCE(2081,1,1,1))", "N:5"}, {"=IF(0,SEQUENCE(2081,1,1,1),5)", "N:5"},
        {"=IF({1},5,SEQUENCE(2081,1,1,1))", "E:#CALC!"}, {"=COLUMNS(IF({1},5,{1,2,3}))", "N:3"}, {"=SUM(IF({1,0},5))", "N:5"},
        {"=IF({1},LAMBDA(1),5)", "E:#CALC!"}, {"=IF({0},LAMBDA(1),5)", "N:5"}, {"=IF({1},#N/A,5)", "E:#N/A"}, {"=IF({\"\"},1,2)", "E:#VALUE!"},
        {"=COUNT(IF(#N/A,1,2),5)", "N:1"}, {"=COUNT(IF(1,2,3),5)", "N:2"}, {"=COUNT(IF(0,2,3),5)", "N:2"}, {"=COUNT(IF(0,2),5)", "N:2"}, {"=IFERROR(IF(#N/A,1,2),7)&\"x\"", "T:7x"},
        {"=COUNT(IFERROR(1,2),5)", "N:2"}, {"=COUNT(IFERROR(#N/A,2),5)", "N:2"}, {"=COUNT(CHOOSE(9,1),5)", "N:1"}, {"=COUNT(CHOOSE(1,1,2),5)", "N:2"}, {"=COUNT(CHOOSE(2,1,2),5)", "N:2"},
        {"=IFERROR(CHOOSE(9,1),7)&\"x\"", "T:7x"}, {"=IF(IF(1,0,1),IF(1,2,3),IF(0,4,IF(1,5,6)))", "N:5"}, {"=IFERROR(IFERROR(#N/A,#REF!),IFERROR(#NUM!,3))", "N:3"},
        {"=IF(#N/A,SEQUENCE(2081,1,1,1),SEQUENCE(2081,1,1,1))", "E:#N/A"}, {"=IF(\"a\",SEQUENCE(2081,1,1,1),SEQUENCE(2081,1,1,1))", "E:#VALUE!"}, {"=IF(0,SEQUENCE(2081,1,1,1))", "B:FALSE"},
        {"=CHOOSE(#N/A,SEQUENCE(2081,1,1,1))", "E:#N/A"}, {"=CHOOSE(9,SEQUENCE(2081,1,1,1))", "E:#VALUE!"}, {"=CHOOSE({1},SEQUENCE(2081,1,1,1))", "E:#VALUE!"},
        {"=CHOOSE(\"a\",SEQUENCE(2081,1,1,1))", "E:#VALUE!"}, {"=IFERROR(LAMBDA(1),SEQUENCE(2081,1,1,1))()", "N:1"},
        // IFERROR: a second one only for an error
        {"=IFERROR(5,SEQUENCE(2081,1,1,1))", "N:5"}, {"=IFERROR(#N/A,SEQUENCE(2081,1,1,1))", "E:#CALC!"}, {"=IFERROR({5},SEQUENCE(2081,1,1,1))", "E:#CALC!"},
        {"=IFERROR(Z9,5)", "0:"}, {"=IFERROR(\"\",5)", "T:"}, {"=IFERROR(#N/A,#REF!)", "E:#REF!"}, {"=IFERROR({#N/A},LAMBDA(1))", "E:#CALC!"},
        {"=IFERROR({4},LAMBDA(1))", "N:4"}, {"=IFERROR(LAMBDA(4),5)()", "N:4"}, {"=IFERROR(#N/A,LAMBDA(4))()", "N:4"},
        // CHOOSE: 1 to 8 a, n in range
        {"=CHOOSE(1,7)", "N:7"}, {"=CHOOSE(0,7)", "E:#VALUE!"}, {"=CHOOSE(0.9999,7)", "E:#VALUE!"}, {"=CHOOSE(1.9999,7,8)", "N:7"}, {"=CHOOSE(2,7)", "E:#VALUE!"},
        {"=CHOOSE(-1,7)", "E:#VALUE!"}, {"=CHOOSE(8,1,2,3,4,5,6,7,80)", "N:80"}, {"=CHOOSE(9,1,2,3,4,5,6,7,80)", "E:#VALUE!"},
        {"=CHOOSE(8.9999,1,2,3,4,5,6,7,80)", "N:80"}, {"=CHOOSE(90000000000,7)", "E:#VALUE!"}, {"=CHOOSE(Z9,7)", "E:#VALUE!"}, {"=CHOOSE(TRUE,7)", "N:7"},
        {"=CHOOSE(\"1\",7)", "E:#VALUE!"}, {"=CHOOSE(#N/A,7)", "E:#N/A"}, {"=CHOOSE({1},7)", "E:#VALUE!"}, {"=CHOOSE({#N/A},7)", "E:#VALUE!"},
        {"=CHOOSE(A1:A2,7)", "E:#VALUE!"}, {"=CHOOSE(LAMBDA(1),7)", "E:#CALC!"}, {"=CHOOSE(1,7,SEQUENCE(2081,1,1,1))", "N:7"}, {"=CHOOSE(2,#N/A,7)", "N:7"},
        {"=CHOOSE(1,B1,A1,A1,A1,A1,A1,A1,B2)", "N:10"}, {"=CHOOSE(7,A1,A1,A1,A1,A1,A1,B2,A1)", "N:20"}, {"=CHOOSE(8,A1,A1,A1,A1,A1,A1,A1,B3)", "N:-30"},
        {"=CHOOSE(1,LAMBDA(4))()", "N:4"}, {"=COLUMNS(CHOOSE(2,1,{1,2,3}))", "N:3"},
    };

    private static final String[][] TABLES = {
        {"=ROWS(A1:A80)", "N:80"}, {"=COLUMNS(A1:Z1)", "N:26"}, {"=ROWS(7)", "N:1"}, {"=COLUMNS(Z9)", "N:1"}, {"=ROWS(#N/A)", "E:#N/A"}, {"=COLUMNS({#N/A})", "N:1"},
        {"=ROWS(LAMBDA(1))", "E:#CALC!"}, {"=ROWS(TRANSPOSE({1,2,3}))", "N:3"}, {"=COLUMNS(TRANSPOSE({1,2,3}))", "N:1"}, {"=TRANSPOSE(#N/A)", "E:#N/A"},
        {"=SUM(TRANSPOSE(TRUE))", "N:0"}, {"=SUM(SORT(TRUE))", "N:1"}, {"=SUM(UNIQUE(TRUE))", "N:1"}, {"=SUM(FILTER(TRUE,1))", "N:1"}, {"=SUM(SORT({TRUE}))", "N:0"},
        // INDEX: from 1; 0 where there is just one
        {"=INDEX(A1:B3,1,1)", "N:1"}, {"=INDEX(A1:B3,3,2)", "N:-30"}, {"=INDEX(A1:B3,4,1)", "E:#REF!"}, {"=INDEX(A1:B3,1,3)", "E:#REF!"},
        {"=INDEX(A1:B3,0,1)", "E:#REF!"}, {"=INDEX(A1:B3,1,0)", "E:#REF!"}, {"=INDEX(A1:B3,-1,1)", "E:#REF!"}, {"=INDEX(A1:B3,1,-1)", "E:#REF!"},
        {"=INDEX(A1:B1,0,2)", "N:10"}, {"=INDEX(A1:B1,1,2)", "N:10"}, {"=INDEX(A1:B1,2,2)", "E:#REF!"}, {"=INDEX(A1:B1,0,0)", "E:#REF!"},
        {"=INDEX(A1:A3,2,0)", "N:2"}, {"=INDEX(A1:A3,0,0)", "E:#REF!"}, {"=INDEX(A1:A3,3,1)", "N:3.5"}, {"=INDEX(A1:A3,2,2)", "E:#REF!"},
        {"=INDEX(7,1,1)", "N:7"}, {"=INDEX(7,0,0)", "N:7"}, {"=INDEX(7,1,2)", "E:#REF!"}, {"=INDEX(7,2,1)", "E:#REF!"}, {"=INDEX(A1:B3,Z9,1)", "E:#REF!"},
        {"=INDEX(A1:B3,90000000000,1)", "E:#REF!"}, {"=INDEX(A1:B3,{2,3},{2;1})", "N:20"}, {"=INDEX(A1:A6,6,1)", "E:#DIV/0!"}, {"=INDEX(#N/A,9,9)", "E:#N/A"},
        {"=INDEX(A1:B3,#N/A,9)", "E:#N/A"}, {"=INDEX(A1:B3,9,#N/A)", "E:#N/A"}, {"=INDEX(A1:B3,\"\",9)", "E:#VALUE!"},
        // MATCH: one row or column
        {"=MATCH(1,A1:A3)", "N:1"}, {"=MATCH(3.5,A1:A3)", "N:3"}, {"=MATCH(4,A1:A3)", "E:#N/A"}, {"=MATCH(10,A1:B1)", "N:2"}, {"=MATCH(1,A1:B2)", "E:#N/A"},
        {"=MATCH(7,7)", "N:1"}, {"=MATCH(8,7)", "E:#N/A"}, {"=MATCH(2,{1,2,2})", "N:2"}, {"=MATCH(2,{#REF!,2})", "N:2"}, {"=MATCH(Z9,{1,\"\",0})", "N:2"},
        {"=MATCH(#REF!,{#REF!,2})", "E:#REF!"}, {"=MATCH({2,1},{1,2})", "N:2"}, {"=MATCH({#REF!,1},{1,2})", "E:#REF!"}, {"=MATCH(LAMBDA(1),{1,2})", "E:#CALC!"},
        // SEQUENCE: r, c cut to whole, below 1
        {"=COUNT(SEQUENCE(1,1,7,9))", "N:1"}, {"=SUM(SEQUENCE(2,2,1,0))", "N:4"}, {"=SEQUENCE(0,1,1,1)", "E:#CALC!"}, {"=SEQUENCE(1,0,1,1)", "E:#CALC!"},
        {"=SEQUENCE(0.9999,1,1,1)", "E:#CALC!"}, {"=ROWS(SEQUENCE(1.9999,1,1,1))", "N:1"}, {"=SEQUENCE(-1,1,1,1)", "E:#CALC!"}, {"=SEQUENCE(Z9,1,1,1)", "E:#CALC!"},
        {"=IFERROR(SEQUENCE(0,1,1,1),5)", "N:5"}, {"=IFERROR(SEQUENCE(0,3000,1,1),5)", "N:5"}, {"=SEQUENCE(TRUE,TRUE,7,0)", "N:7"}, {"=SEQUENCE(0,1,1,\"a\")", "E:#VALUE!"},
        {"=SEQUENCE(0,1,1,#N/A)", "E:#N/A"}, {"=ROWS(SEQUENCE(2080,1,1,1))", "N:2080"}, {"=COLUMNS(SEQUENCE(1,2080,1,1))", "N:2080"}, {"=SEQUENCE(1,2081,1,1)", "E:#CALC!"}, {"=SEQUENCE(2081,1,1,1)", "E:#CALC!"}, {"=COLUMNS(SEQUENCE(26,80,1,1))", "N:80"},
        // SORT, UNIQUE
        {"=INDEX(SORT({2;1}),1,1)", "N:1"}, {"=INDEX(SORT({2,1}),1,1)", "N:2"}, {"=INDEX(SORT({TRUE;\"\";0}),1,1)", "N:0"}, {"=INDEX(SORT({TRUE;\"\";0}),3,1)", "B:TRUE"},
        {"=INDEX(SORT({#N/A;#DIV/0!;TRUE}),1,1)", "B:TRUE"}, {"=INDEX(SORT({#N/A;#DIV/0!;TRUE}),2,1)", "E:#N/A"}, {"=INDEX(SORT({1,1;0,2;1,3}),2,2)", "N:1"},
        {"=SORT(#N/A)", "E:#N/A"}, {"=UNIQUE(#N/A)", "E:#N/A"}, {"=ROWS(UNIQUE({1;1;1}))", "N:1"}, {"=ROWS(UNIQUE({1;2;3}))", "N:3"}, {"=ROWS(UNIQUE({#N/A;#N/A;#REF!}))", "N:2"},
        {"=SUM(FILTER({5;6},{0;1}))&INDEX(UNIQUE({1;2;3}),1,1)&INDEX(SORT({3;2}),1,1)&INDEX(UNIQUE({7;8}),1,1)", "T:6127"}, {"=ROWS(UNIQUE({1,1;1,2;1,1}))", "N:2"}, {"=ROWS(SORT({1;2;3}))&ROWS(FILTER({5;6},{0;1}))&ROWS(UNIQUE({1;1}))&ROWS(FILTER({5;6},{1;1}))", "T:3112"}, {"=ROWS(UNIQUE(Z9:Z10))", "N:1"}, {"=ROWS(UNIQUE({0;\"\";FALSE}))", "N:3"}, {"=ROWS(UNIQUE({1,1,1}))", "N:1"},
        // FILTER: one column of as many, none left
        {"=ROWS(FILTER(A1:B3,{1;1;1}))", "N:3"}, {"=ROWS(FILTER(A1:B3,{0;0;1}))", "N:1"}, {"=FILTER(A1:B3,{0;0;0})", "E:#CALC!"}, {"=FILTER(A1:B3,{1;1})", "E:#VALUE!"},
        {"=FILTER(A1:B3,{1;1;1;1})", "E:#VALUE!"}, {"=FILTER(A1:B3,{1,1,1})", "E:#VALUE!"}, {"=FILTER(A1:B3,{1,1;1,1;1,1})", "E:#VALUE!"}, {"=FILTER(A1:B3,1)", "E:#VALUE!"},
        {"=COLUMNS(FILTER(A1:B1,1))", "N:2"}, {"=FILTER(7,{1})", "N:7"}, {"=FILTER(7,0)", "E:#CALC!"}, {"=FILTER(7,{1;1})", "E:#VALUE!"}, {"=IFERROR(FILTER(7,0),5)", "N:5"},
        {"=FILTER(A1:A2,{\"\";1})", "E:#VALUE!"}, {"=FILTER(A1:A2,{1;#REF!})", "E:#REF!"}, {"=ROWS(FILTER(A1:A2,Z9:Z10=0))", "N:2"}, {"=FILTER(A1:A2,Z9:Z10)", "E:#CALC!"},
        // VLOOKUP: n first of all
        {"=VLOOKUP(2,A1:B4,1)", "N:2"}, {"=VLOOKUP(2,A1:B4,2)", "N:20"}, {"=VLOOKUP(2,A1:B4,2.9999)", "N:20"}, {"=VLOOKUP(2,A1:B4,3)", "E:#REF!"}, {"=VLOOKUP(2,A1:B4,0)", "E:#REF!"},
        {"=VLOOKUP(2,A1:B4,0.9999)", "E:#REF!"}, {"=VLOOKUP(2,A1:B4,-1)", "E:#REF!"}, {"=VLOOKUP(99,A1:B4,2)", "E:#N/A"}, {"=VLOOKUP(99,A1:B4,3)", "E:#REF!"}, {"=VLOOKUP(99,A1:B4,0)", "E:#REF!"},
        {"=VLOOKUP(1,{1,2;1,3},2)", "N:2"}, {"=VLOOKUP(7,7,1)", "N:7"}, {"=VLOOKUP(7,7,2)", "E:#REF!"}, {"=VLOOKUP(8,7,1)", "E:#N/A"}, {"=VLOOKUP({2,1},A1:B4,{2,9})", "N:20"},
        {"=VLOOKUP(1,{#N/A,2;1,3},2)", "N:3"}, {"=VLOOKUP(1,{1,#NUM!},2)", "E:#NUM!"}, {"=VLOOKUP(1,A1:B4,\"\")", "E:#VALUE!"},
        {"=VLOOKUP(#N/A,A1:B4,3)", "E:#REF!"}, {"=VLOOKUP(#N/A,A1:B4,0)", "E:#REF!"}, {"=VLOOKUP(#N/A,A1:B4,2)", "E:#N/A"}, {"=VLOOKUP(LAMBDA(1),A1:B4,3)", "E:#REF!"},
        {"=VLOOKUP(LAMBDA(1),A1:B4,2)", "E:#CALC!"}, {"=VLOOKUP({#NUM!,1},A1:B4,3)", "E:#REF!"}, {"=VLOOKUP(#N/A,A1:B4,#NUM!)", "E:#N/A"}, {"=VLOOKUP(1,A1:B4,#NUM!)", "E:#NUM!"},
        {"=VLOOKUP(#N/A,A1:B4,\"\")", "E:#N/A"}, {"=VLOOKUP(1,#NUM!,3)", "E:#NUM!"}, {"=VLOOKUP(#N/A,#NUM!,3)", "E:#N/A"}, {"=VLOOKUP(1,LAMBDA(1),3)", "E:#CALC!"},
        {"=VLOOKUP(1,{#NUM!},2)", "E:#REF!"}, {"=VLOOKUP(1,A1:B4,{3,1})", "E:#REF!"}, {"=VLOOKUP(1,A1:B4,LAMBDA(1))", "E:#CALC!"}, {"=VLOOKUP(1,A1:B4,Z9)", "E:#REF!"}, {"=VLOOKUP(1,A1:B4,TRUE)", "N:1"},
        // SUMIF: the same rows and columns
        {"=SUMIF({1,2},2,{5,6})", "N:6"}, {"=SUMIF({1,2},3,{5,6})", "N:0"}, {"=SUMIF({1,2},2,{5;6})", "E:#VALUE!"}, {"=SUMIF({1,2},2,{5,6,7})", "E:#VALUE!"}, {"=SUMIF({1,2;3,4},2,{5,6})", "E:#VALUE!"},
        {"=SUMIF(1,1,{7})", "N:7"}, {"=SUMIF({1,1,1,1,#N/A},1,{5,TRUE,\"6\",#REF!,9})", "N:5"}, {"=SUMIF(A1:A6,2,B1:B6)", "N:20"}, {"=SUMIF({1,2},#N/A,{5;6})", "E:#N/A"}, {"=SUMIF(1,{1,2},7)", "N:7"},
    };

    private static final String[][] FUNCTIONS_MADE = {
        {"=LET(QQ9,1,QQ_,2,QQZ,3,QQA,4,QQ0,5,QQ9&QQ_&QQZ&QQA&QQ0)", "T:12345"}, {"=LET(ABCDEFGHIJKL,1,ABCDEFGHIJKM,2,ABCDEFGHIJKL)", "N:1"},
        {"=LET(A_,1,AA_,2,A__,3,A_&AA_&A__)", "T:123"}, {"=LET(XA,1,YF,2,XA&YF)", "T:12"}, {"=LET(V,1,V)", "N:1"},
        {"=LET(X,1,X)+X", "E:#NAME?"}, {"=LET(X,1,Y,2,X)+Y", "E:#NAME?"}, {"=X+LET(X,1,X)", "E:#NAME?"}, {"=LAMBDA(X,X)(1)+X", "E:#NAME?"}, {"=LET(X,1,LET(Y,2,X)+X)", "N:2"},
        {"=LET(X,1,LET(X,2,Y,3,X+Y)+X)", "N:6"}, {"=LET(X,1,LAMBDA(X,X)(5)+X)", "N:6"}, {"=LET(X,TRUE,SUM(X))", "N:1"}, {"=LET(X,\"a\",SUM(X))", "E:#VALUE!"}, {"=LET(X,A5,SUM(X))", "N:1"},
        {"=LET(V,1,W,2,X,3,Y,4,Z,5,V+W+X+Y+Z)", "N:15"}, {"=LAMBDA(7)()", "N:7"}, {"=LAMBDA(V,W,X,Y,Z,V+W+X+Y+Z)(1,2,3,4,5)", "N:15"},
        {"=LAMBDA(7)(1)", "E:#VALUE!"}, {"=LAMBDA(V,7)()", "E:#VALUE!"}, {"=LAMBDA(V,7)(1,2)", "E:#VALUE!"}, {"=LAMBDA(V,W,X,Y,Z,7)(1,2,3,4)", "E:#VALUE!"},
        {"=LAMBDA(V,W,X,Y,Z,7)(1,2,3,4,5,6)", "E:#VALUE!"}, {"=LAMBDA(7)(#N/A)", "E:#VALUE!"}, {"=7()", "E:#VALUE!"}, {"=#N/A()", "E:#N/A"}, {"={7}()", "E:#VALUE!"}, {"={#N/A}()", "E:#VALUE!"},
        {"=Z9()", "E:#VALUE!"}, {"=A6(1)", "E:#DIV/0!"}, {"=NOSUCH(1)", "E:#NAME?"}, {"=LAMBDA(LAMBDA(7))()()", "N:7"}, {"=LAMBDA(7)()()", "E:#VALUE!"}, {"=LAMBDA(#REF!)()(1)", "E:#REF!"},
        {"=7(SEQUENCE(2081,1,1,1))", "E:#CALC!"}, {"=LAMBDA(7)(SEQUENCE(2081,1,1,1))", "E:#CALC!"}, {"=IFERROR(LAMBDA(7)(SEQUENCE(2081,1,1,1)),5)", "E:#CALC!"},
        // MAP, REDUCE, MAKEARRAY
        {"=MAP(7,LAMBDA(X,X+1))", "N:8"}, {"=COUNTA(MAP({1,2;3,4},LAMBDA(X,X)))", "N:4"}, {"=MAP(7,8)", "E:#VALUE!"}, {"=MAP({1,2},LAMBDA(7))", "E:#VALUE!"}, {"=MAP({1},LAMBDA(X,LAMBDA(1)))", "E:#CALC!"},
        {"=MAP({1},LAMBDA(X,{7,8}))", "N:7"}, {"=COLUMNS(MAP({1},LAMBDA(X,{7,8})))", "N:1"}, {"=MAP(#N/A,8)", "E:#N/A"}, {"=MAP(7,#N/A)", "E:#N/A"}, {"=MAP(LAMBDA(1),LAMBDA(X,1))", "E:#CALC!"},
        {"=REDUCE(5,{1},LAMBDA(X,Y,X-Y))", "N:4"}, {"=REDUCE(5,7,LAMBDA(X,Y,X-Y))", "N:-2"}, {"=REDUCE(5,7,8)", "E:#VALUE!"}, {"=REDUCE(5,7,LAMBDA(X,X))", "E:#VALUE!"},
        {"=COLUMNS(REDUCE(0,{1},LAMBDA(X,Y,{7,8})))", "N:2"}, {"=REDUCE(0,{1},LAMBDA(X,Y,LAMBDA(9)))()", "N:9"}, {"=REDUCE(#N/A,{1},LAMBDA(X,Y,7))", "E:#N/A"}, {"=REDUCE(1,#N/A,LAMBDA(X,Y,7))", "E:#N/A"},
        {"=REDUCE(1,{#N/A},LAMBDA(X,Y,7))", "N:7"}, {"=REDUCE(LAMBDA(1),{1},LAMBDA(X,Y,7))", "E:#CALC!"}, {"=REDUCE(\"\",{1,2;3,4},LAMBDA(X,Y,X&Y))", "T:1234"},
        {"=MAKEARRAY(1,1,LAMBDA(X,Y,X*10+Y))", "N:11"}, {"=INDEX(MAKEARRAY(2,3,LAMBDA(X,Y,X*10+Y)),2,3)", "N:23"}, {"=MAKEARRAY(0,1,LAMBDA(X,Y,1))", "E:#CALC!"}, {"=MAKEARRAY(1,0.9999,LAMBDA(X,Y,1))", "E:#CALC!"},
        {"=IFERROR(MAKEARRAY(1,0,LAMBDA(X,Y,1)),5)", "N:5"}, {"=COLUMNS(MAKEARRAY(1,1.9999,LAMBDA(X,Y,1)))", "N:1"}, {"=MAKEARRAY(1,1,7)", "E:#VALUE!"}, {"=MAKEARRAY(1,1,LAMBDA(X,1))", "E:#VALUE!"},
        {"=MAKEARRAY(1,#N/A,7)", "E:#N/A"}, {"=MAKEARRAY(1,\"\",LAMBDA(X,Y,1))", "E:#VALUE!"}, {"=IFERROR(MAKEARRAY(2081,1,LAMBDA(X,Y,1)),5)", "E:#CALC!"},
        // where a function is no value
        {"=LAMBDA(1)+1", "E:#CALC!"}, {"=1&LAMBDA(1)", "E:#CALC!"}, {"=LAMBDA(1)=LAMBDA(1)", "E:#CALC!"}, {"=-LAMBDA(1)", "E:#CALC!"}, {"=LAMBDA(1)%", "E:#CALC!"}, {"=(+LAMBDA(7))()", "N:7"},
        {"=ABS(LAMBDA(1))", "E:#CALC!"}, {"=#N/A+LAMBDA(1)", "E:#N/A"}, {"=LAMBDA(1)+#N/A", "E:#CALC!"}, {"=\"a\"+LAMBDA(1)", "E:#CALC!"}, {"=SORT(LAMBDA(1))", "E:#CALC!"},
    };

    private static final String[][] ORDER = {
        // comparisons: nothing, numbers, texts, truths
        {"=Z9=0", "B:TRUE"}, {"=Z9=\"\"", "B:TRUE"}, {"=Z9=FALSE", "B:TRUE"}, {"=Z9=Z10", "B:TRUE"}, {"=Z9<0.0001", "B:TRUE"}, {"=Z9>-0.0001", "B:TRUE"}, {"=Z9<\" \"", "B:TRUE"}, {"=Z9<TRUE", "B:TRUE"},
        {"=90000000000<\"\"", "B:TRUE"}, {"=\"~\"<FALSE", "B:TRUE"}, {"=\"\"<\" \"", "B:TRUE"}, {"=\"a\"<\"a \"", "B:TRUE"}, {"=\"Z\"<\"a\"", "B:TRUE"}, {"=\"a\"=\"A\"", "B:FALSE"}, {"=FALSE<TRUE", "B:TRUE"},
        {"=\"abc\"=\"abc\"", "B:TRUE"}, {"=\"abc\"<\"abd\"", "B:TRUE"}, {"=\"abd\"<\"abc\"", "B:FALSE"}, {"=\"abc\"<\"abcd\"", "B:TRUE"}, {"=\"b\"<\"abc\"", "B:FALSE"},
        {"=1=TRUE", "B:FALSE"}, {"=0=FALSE", "B:FALSE"}, {"=\"1\"=1", "B:FALSE"}, {"=\"\"=0", "B:FALSE"}, {"=0.0001>0", "B:TRUE"}, {"=-0=0", "B:TRUE"}, {"=1<=1", "B:TRUE"}, {"=1>=1", "B:TRUE"}, {"=1<>1", "B:FALSE"},
        {"=#N/A=#N/A", "E:#N/A"}, {"=1=#REF!", "E:#REF!"}, {"=#NUM!<#REF!", "E:#NUM!"},
        // operators bind as told
        {"=1&2=1&2", "B:TRUE"}, {"=1&2<>1&2", "B:FALSE"}, {"=1&2<=1&3", "B:TRUE"}, {"=1&2>=1&3", "B:FALSE"}, {"=1&2<1&3", "B:TRUE"}, {"=1&2>1&3", "B:FALSE"},
        {"=8-2*3", "N:2"}, {"=8+2*3", "N:14"}, {"=8-4/2", "N:6"}, {"=8+4/2", "N:10"}, {"=8-4+2", "N:6"}, {"=8/4*2", "N:4"}, {"=8*4/2", "N:16"}, {"=8-2&8+2", "T:610"}, {"=8&2*3", "T:86"},
        {"=2<1<>TRUE", "B:TRUE"}, {"=1+1>1*1", "B:TRUE"}, {"=-1&-2%", "T:-1-0.02"}, {"=LAMBDA(X,X)(50)%", "N:0.5"}, {"=-LAMBDA(X,X)(50)%", "N:-0.5"},
        {"=1+2*3", "N:7"}, {"=2*3+1", "N:7"}, {"=1&2+3", "T:15"}, {"=1+2&3", "T:33"}, {"=1&2=12", "B:FALSE"}, {"=1&2=\"12\"", "B:TRUE"}, {"=-2*-3", "N:6"}, {"=2--3", "N:5"}, {"=50%*2", "N:1"},
        {"=-50%", "N:-0.5"}, {"=8/4/2", "N:1"}, {"=8-4-2", "N:2"}, {"=1=1=1", "B:FALSE"}, {"=1=1=TRUE", "B:TRUE"}, {"=3>2>1", "B:TRUE"}, {"=(1=1)*2", "N:2"}, {"=\"a\"&\"b\"=\"ab\"", "B:TRUE"},
        // what numbers are needed of
        {"=Z9+0", "N:0"}, {"=TRUE+FALSE", "N:1"}, {"=\"\"+0", "E:#VALUE!"}, {"=\"1\"*1", "E:#VALUE!"}, {"=1/FALSE", "E:#DIV/0!"}, {"=1/Z9", "E:#DIV/0!"}, {"=0/0", "E:#DIV/0!"}, {"=\"a\"/0", "E:#VALUE!"},
        {"=#N/A/0", "E:#N/A"}, {"=-Z9", "N:0"}, {"=+Z9", "0:"}, {"=-TRUE", "N:-1"}, {"=+TRUE", "B:TRUE"}, {"=+\"a\"", "T:a"}, {"=-\"a\"", "E:#VALUE!"}, {"=TRUE%", "N:0.01"}, {"=Z9%", "N:0"}, {"=Z9&Z9", "T:"},
        {"=1.50&TRUE&FALSE&Z9", "T:1.5TRUEFALSE"}, {"=#N/A&#REF!", "E:#N/A"}, {"=\"a\"+#REF!", "E:#REF!"},
    };

    private static void all(String title, String[][] table) {
        for (String[] x : table) {
            Bench b = new Bench(title).with(SHEET).with("J9", x[0]);
            b.dueValue("J9", x[1]);
        }
    }

    /** Each comparison of what comes before, is equal and comes behind. */
    private static void comparisons() {
        String[][] pairs = {{"1", "2"}, {"-0.0001", "0"}, {"0", "0.0001"}, {"\"a\"", "\"b\""}, {"\"\"", "\"a\""}, {"\"ab\"", "\"abc\""}, {"\"abc\"", "\"abd\""}, {"\"Z\"", "\"a\""},
            {"FALSE", "TRUE"}, {"5", "\"\""}, {"5", "FALSE"}, {"\"z\"", "FALSE"}, {"Z9", "1"}, {"-1", "Z9"}, {"Z9", "\"a\""}, {"Z9", "TRUE"}, {"-90000000000", "90000000000"}};
        String[][] signs = {{"=", "FALSE", "TRUE", "FALSE"}, {"<>", "TRUE", "FALSE", "TRUE"}, {"<=", "TRUE", "TRUE", "FALSE"}, {">=", "FALSE", "TRUE", "TRUE"},
            {"<", "TRUE", "FALSE", "FALSE"}, {">", "FALSE", "FALSE", "TRUE"}};
        for (String[] pair : pairs) {
            for (String[] sign : signs) {
                Bench b = new Bench("comparisons");
                b.with("A1", "=" + pair[0] + sign[0] + pair[1], "A2", "=" + pair[0] + sign[0] + pair[0], "A3", "=" + pair[1] + sign[0] + pair[1], "A4", "=" + pair[1] + sign[0] + pair[0]);
                b.dueValue("A1", "B:" + sign[1]);
                b.dueValue("A2", "B:" + sign[2]);
                b.dueValue("A3", "B:" + sign[2]);
                b.dueValue("A4", "B:" + sign[3]);
            }
        }
    }

    public static void main(String[] args) {
        all("numbers", WHOLE_NUMBERS);
        all("texts", TEXTS);
        all("sums", SUMS);
        all("choices", CHOICES);
        all("tables", TABLES);
        all("functions made", FUNCTIONS_MADE);
        all("order", ORDER);
        comparisons();
        Bench.end("FunctionBoundsTest");
    }
}
