import java.util.ArrayList;
import java.util.List;
import java.util.Random;

/** Makes formulas by chance, most of them sound, some broken by a byte. */
final class FormulaMaker {
    private static final String[] WORDS = {"X", "Y", "N", "ACC", "K", "T", "FACT", "F_1", "SUM", "A81"};
    private static final String[] TEXTS = {"", "a", "abc", "Ab", "b\"\"c", "TRUE", "12", " x ", "zz top"};
    private static final String[] NUMBERS = {"0", "1", "2", "3", "4", "5", "10", "0.5", "1.25", "007", "2.50", "0.0001",
        "100", "12345.6789", "90000000000", "45000000000", "300000", "99999", "1.5", "2.75"};
    private static final String[] BREAKS = {"$", "(", ")", "{", "}", ",", ";", ":", "\"", "#", "%", "=", "<", ">", "&",
        "+", "-", "*", "/", ".", "1", "A", "_", "a", " ", "\u0007", "\u00e9", "A1", "TRUE", "SUM(", "LET("};

    private final Random chance;

    FormulaMaker(Random chance) {
        this.chance = chance;
    }

    String formula() {
        String s = blank() + "=" + expression(1 + chance.nextInt(4), new ArrayList<>());
        s = s.startsWith(" ") && chance.nextInt(8) > 0 ? s.substring(1) : s;
        return chance.nextInt(10) == 0 ? broken(s) : s + blank();
    }

    /** Long or deep ones, about as long and as deep as may be. */
    String stretched() {
        StringBuilder b = new StringBuilder("=");
        if (chance.nextBoolean()) {
            String[] chain = {"+1", "*A1", "&X", "-CHOOSE(1,1)", "+IF(1,1)", "%", "+LAMBDA(1)", "+X()", "+{1,2,3}", "<1",
                "+-+-1", " + 1.50", "+A1:B2", "+$C$3"};
            String one = pick(chain);
            int bytes = chance.nextInt(4) == 0 ? chance.nextInt(1900) : 230 + chance.nextInt(30);
            b.append("1");
            while (b.length() < bytes) {
                b.append(chance.nextInt(5) == 0 ? pick(chain) : one);
            }
            return b.toString();
        }
        String[] opens = {"(", "ABS(", "IF(1,", "CHOOSE(1,", "LET(X,1,", "LAMBDA(X,", "SUM(1,", "X(", "1+(", "-("};
        int deep = chance.nextInt(16);
        for (int k = 0; k < deep; k++) {
            b.append(pick(opens));
        }
        return b.append(chance.nextBoolean() ? "{1,2}" : "X()").append(")".repeat(deep)).toString();
    }

    String broken(String s) {
        int at = chance.nextInt(s.length() + 1);
        int behind = Math.min(s.length(), at + chance.nextInt(3));
        return s.substring(0, at) + (chance.nextInt(3) == 0 ? "" : pick(BREAKS)) + s.substring(behind);
    }

    String constant() {
        switch (chance.nextInt(9)) {
            case 0:
                return chance.nextBoolean() ? "TRUE" : "FALSE";
            case 1:
                return "'" + pick(TEXTS) + pick(NUMBERS);
            case 2:
                return pick(TEXTS);
            case 3:
                return "-" + pick(NUMBERS);
            case 4:
                return pick(BREAKS) + pick(TEXTS);
            case 5:
                return "";
            default:
                return pick(NUMBERS);
        }
    }

    String word() {
        return pick(WORDS);
    }

    private String pick(String[] from) {
        return from[chance.nextInt(from.length)];
    }

    private String blank() {
        return chance.nextInt(12) == 0 ? " " : "";
    }

    private String cell() {
        boolean far = chance.nextInt(40) == 0;
        int column = far ? 24 + chance.nextInt(2) : chance.nextInt(6);
        int row = far ? 78 + chance.nextInt(2) : chance.nextInt(9);
        return (chance.nextInt(5) == 0 ? "$" : "") + (char) ('A' + column) + (chance.nextInt(5) == 0 ? "$" : "")
                + (row + 1);
    }

    private String range() {
        return cell() + blank() + ":" + blank() + cell();
    }

    private String literal() {
        switch (chance.nextInt(8)) {
            case 0:
                return "\"" + pick(TEXTS) + "\"";
            case 1:
                return chance.nextBoolean() ? "TRUE" : "FALSE";
            case 2:
                return Oracle.SIGNS[1 + chance.nextInt(8)];
            default:
                return pick(NUMBERS);
        }
    }

    private String braces() {
        int rows = 1 + chance.nextInt(3);
        int columns = 1 + chance.nextInt(3);
        StringBuilder b = new StringBuilder("{");
        for (int k = 0; k < rows * columns; k++) {
            b.append(k == 0 ? "" : k % columns == 0 ? ";" : ",").append(blank());
            String item = literal();
            b.append(Character.isDigit(item.charAt(0)) && chance.nextInt(4) == 0 ? "-" : "").append(item);
        }
        if (chance.nextInt(30) == 0) {
            b.append(",1");
        }
        return b.append("}").toString();
    }

    private String atom(List<String> words) {
        switch (chance.nextInt(10)) {
            case 0:
            case 1:
            case 2:
                return cell();
            case 3:
                return range();
            case 4:
                return braces();
            case 5:
            case 6:
                if (!words.isEmpty() && chance.nextInt(4) > 0) {
                    return words.get(chance.nextInt(words.size()));
                }
                return pick(WORDS);
            default:
                return literal();
        }
    }

    private String expression(int depth, List<String> words) {
        if (depth <= 0) {
            return atom(words);
        }
        String b = blank();
        switch (chance.nextInt(16)) {
            case 0:
            case 1:
            case 2: {
                String[] ops = {"+", "-", "*", "/", "&", "=", "<>", "<=", ">=", "<", ">"};
                return expression(depth - 1, words) + b + pick(ops) + b + expression(depth - 1, words);
            }
            case 3:
                return (chance.nextBoolean() ? "-" : "+") + b + expression(depth - 1, words);
            case 4:
                return "(" + b + expression(depth - 1, words) + b + ")" + (chance.nextInt(5) == 0 ? "%" : "");
            case 5:
                return let(depth, words);
            case 6:
                return lambda(depth, words, chance.nextInt(3)) + "(" + list(depth - 1, words, chance.nextInt(3)) + ")";
            case 7:
                return higher(depth, words);
            case 8:
                return atom(words) + "(" + list(depth - 1, words, chance.nextInt(3)) + ")";
            case 9:
                return atom(words);
            default:
                return function(depth, words);
        }
    }

    private String list(int depth, List<String> words, int n) {
        StringBuilder b = new StringBuilder();
        for (int k = 0; k < n; k++) {
            b.append(k == 0 ? "" : ",").append(blank()).append(expression(depth, words));
        }
        return b.toString();
    }

    private String let(int depth, List<String> words) {
        List<String> inner = new ArrayList<>(words);
        StringBuilder b = new StringBuilder("LET(");
        int n = 1 + chance.nextInt(chance.nextInt(10) == 0 ? 6 : 2);
        for (int k = 0; k < n; k++) {
            String w = chance.nextInt(5) == 0 ? "F" + "_" + k : pick(WORDS);
            boolean fun = chance.nextInt(4) == 0;
            b.append(w).append(",").append(fun ? lambda(depth - 1, inner, 1) : expression(depth - 1, inner)).append(",");
            inner.add(w);
        }
        return b.append(expression(depth - 1, inner)).append(")").toString();
    }

    private String lambda(int depth, List<String> words, int parameters) {
        List<String> inner = new ArrayList<>(words);
        StringBuilder b = new StringBuilder("LAMBDA(");
        for (int k = 0; k < parameters; k++) {
            String w = pick(WORDS);
            inner.add(w);
            b.append(w).append(blank()).append(",");
        }
        return b.append(expression(depth - 1, inner)).append(")").toString();
    }

    private String higher(int depth, List<String> words) {
        boolean sound = chance.nextInt(6) > 0;
        switch (chance.nextInt(3)) {
            case 0:
                return "MAP(" + list(depth - 1, words, 1) + ","
                        + (sound ? lambda(depth, words, 1) : expression(depth - 1, words)) + ")";
            case 1:
                return "REDUCE(" + list(depth - 1, words, 2) + ","
                        + (sound ? lambda(depth, words, 2) : expression(depth - 1, words)) + ")";
            default:
                return "MAKEARRAY(" + (1 + chance.nextInt(4)) + "," + (sound ? "2" : list(depth - 1, words, 1)) + ","
                        + (sound ? lambda(depth, words, 2) : expression(depth - 1, words)) + ")";
        }
    }

    private String function(int depth, List<String> words) {
        String[] many = {"SUM", "MIN", "MAX", "COUNT", "AVERAGE", "PRODUCT", "AND", "OR", "COUNTA"};
        String[] fixed = {"ABS 1", "INT 1", "ROUND 2", "MOD 2", "NOT 1", "LEN 1", "UPPER 1", "LEFT 2", "RIGHT 2",
            "MID 3", "FIND 2", "IF 2", "IF 3", "IF 3", "IFERROR 2", "IFERROR 2", "CHOOSE 3", "CHOOSE 4", "ROWS 1",
            "COLUMNS 1", "TRANSPOSE 1", "INDEX 3", "MATCH 2", "SEQUENCE 4", "SORT 1", "UNIQUE 1", "FILTER 2",
            "VLOOKUP 3", "SUMIF 3"};
        if (chance.nextInt(3) == 0) {
            return pick(many) + blank() + "(" + list(depth - 1, words, 1 + chance.nextInt(3)) + ")";
        }
        String[] parts = pick(fixed).split(" ");
        int n = Integer.parseInt(parts[1]);
        n = chance.nextInt(60) == 0 ? n + 1 - chance.nextInt(3) : n;
        if (chance.nextInt(3) == 0) {
            return parts[0] + "(" + sound(parts[0], depth, words) + ")";
        }
        return parts[0] + blank() + "(" + list(depth - 1, words, n) + ")";
    }

    /** What the function can make something of. */
    private String sound(String f, int depth, List<String> words) {
        String small = String.valueOf(chance.nextInt(4));
        switch (f) {
            case "SEQUENCE":
                return (1 + chance.nextInt(4)) + "," + (1 + chance.nextInt(3)) + "," + list(depth - 1, words, 2);
            case "INDEX":
                return range() + "," + small + "," + chance.nextInt(3);
            case "MATCH":
                return literal() + "," + (chance.nextBoolean() ? "A1:A8" : "B2:F2");
            case "VLOOKUP":
                return literal() + ",A1:C8," + small;
            case "SUMIF":
                return "A1:A8," + literal() + ",B1:B8";
            case "FILTER":
                return "A1:B6,A1:A6" + (chance.nextBoolean() ? ">1" : "=" + literal());
            case "LEFT":
            case "RIGHT":
                return list(depth - 1, words, 1) + "," + small;
            case "MID":
                return list(depth - 1, words, 1) + "," + small + "," + chance.nextInt(3);
            case "ROUND":
                return list(depth - 1, words, 1) + "," + (chance.nextInt(8) - 3);
            case "SORT":
            case "UNIQUE":
            case "TRANSPOSE":
                return range();
            case "CHOOSE":
                return small + "," + list(depth - 1, words, 2);
            case "IF":
                return list(depth - 1, words, 3);
            case "IFERROR":
            case "MOD":
            case "FIND":
                return list(depth - 1, words, 2);
            default:
                return list(depth - 1, words, 1);
        }
    }
}
