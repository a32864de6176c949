import java.math.BigInteger;
import java.nio.charset.StandardCharsets;
import java.util.ArrayList;
import java.util.Arrays;
import java.util.HashMap;
import java.util.HashSet;
import java.util.LinkedHashMap;
import java.util.List;
import java.util.Map;
import java.util.Set;

/**
 * The document once more, in the plainest way that the Java library allows: after each edit all is worked
 * out from the start, by trees and big integers. The tests hold GridReckoner against it.
 */
final class Oracle {
    private static final int ROWS = 80;
    private static final int COLUMNS = 26;
    private static final BigInteger UNIT = BigInteger.valueOf(10000);
    private static final BigInteger GREATEST = BigInteger.valueOf(90000000000L).multiply(UNIT);
    static final String[] SIGNS = {"", "#DIV/0!", "#VALUE!", "#REF!", "#NAME?", "#NUM!", "#N/A", "#CIRC!", "#CALC!"};
    private static final String[] FUNCTIONS = {
        "ABS 1 1", "INT 1 1", "ROUND 2 2", "MOD 2 2", "NOT 1 1", "LEN 1 1", "UPPER 1 1", "LEFT 2 2", "RIGHT 2 2",
        "MID 3 3", "FIND 2 2", "SUM 1 8", "MIN 1 8", "MAX 1 8", "COUNT 1 8", "AVERAGE 1 8", "PRODUCT 1 8",
        "AND 1 8", "OR 1 8", "COUNTA 1 8", "IF 2 3", "IFERROR 2 2", "CHOOSE 2 9", "ROWS 1 1", "COLUMNS 1 1",
        "TRANSPOSE 1 1", "INDEX 3 3", "MATCH 2 2", "SEQUENCE 4 4", "SORT 1 1", "UNIQUE 1 1", "FILTER 2 2",
        "VLOOKUP 3 3", "SUMIF 3 3", "LET 0 0", "LAMBDA 0 0", "MAP 2 2", "REDUCE 3 3", "MAKEARRAY 3 3"};

    record Err(int which) { }

    record Arr(int rows, int columns, Object[] items) { }

    record Fun(List<String> words, Node body, Env env) { }

    record Env(String word, Object value, Env outer) { }

    /** Where a formula stops with all of it #CALC!. */
    private static final class Limit extends RuntimeException {
        private static final long serialVersionUID = 1;

        Limit() {
            super(null, null, false, false);
        }
    }

    private static final class Broken extends RuntimeException {
        private static final long serialVersionUID = 1;
        private final int place;

        Broken(int place) {
            super(null, null, false, false);
            this.place = place;
        }
    }

    /** NUM, TEXT, ERR, TRUTH, CELL, WORD, SIGN, END, BAD. */
    record Token(String kind, String text, int place, Object value, Ref ref) { }

    record Ref(int row, boolean rowFixed, int column, boolean columnFixed) {
        String text() {
            return (columnFixed ? "$" : "") + (char) ('A' + column) + (rowFixed ? "$" : "") + (row + 1);
        }
    }

    record Node(String op, List<Node> parts, Object value, int[] range, List<String> words) {
        static Node of(String op, Node... parts) {
            return new Node(op, Arrays.asList(parts), null, null, null);
        }
    }

    /** A formula as it is written, and what has been made of it. */
    private static final class Formula {
        private final List<Token> tokens;
        private final Node tree;
        private int row;
        private int column;
        private int high;
        private int wide;

        Formula(List<Token> tokens, Node tree) {
            this.tokens = tokens;
            this.tree = tree;
        }

        String shown() {
            StringBuilder b = new StringBuilder();
            for (Token t : tokens) {
                b.append(t.text);
            }
            return b.toString();
        }
    }

    private byte[] tape = new byte[0];
    private byte[] result = new byte[0];
    private int place = -1;
    private int worked;
    /** A constant (not a Formula) or a Formula, by row * 26 + column. */
    private Object[] content = new Object[ROWS * COLUMNS];
    private Object[] values = new Object[ROWS * COLUMNS];
    private final Map<String, Formula> names = new LinkedHashMap<>();

    // ---- the face ----

    int feed(int a, int b, int c, int d, int e) {
        if (tape.length + 20 > 2000) {
            throw new IndexOutOfBoundsException();
        }
        byte[] longer = Arrays.copyOf(tape, tape.length + 20);
        java.nio.ByteBuffer.wrap(longer, tape.length, 20).putInt(a).putInt(b).putInt(c).putInt(d).putInt(e);
        tape = longer;
        return tape.length;
    }

    int end(int n) {
        if (n < 0 || n > tape.length) {
            throw new IllegalArgumentException();
        }
        tape = Arrays.copyOf(tape, n);
        return n;
    }

    int set(int r, int c) {
        check(r, c, 1, 1);
        byte[] bytes = takeTape();
        if (bytes.length > 0 && bytes[0] == '=') {
            return put(formula(bytes, 0), r, c, 1, 1);
        }
        for (int k = 0; k < bytes.length; k++) {
            if (bytes[k] < 32 || bytes[k] > 126) {
                place = k;
                throw new UnsupportedOperationException();
            }
        }
        whole(r, c, 1, 1);
        String text = new String(bytes, StandardCharsets.ISO_8859_1);
        Object constant = constant(text);
        if (constant instanceof String s && s.length() > 60) {
            throw new IndexOutOfBoundsException();
        }
        content[r * COLUMNS + c] = constant;
        return finish(cells(r, c, 1, 1), null);
    }

    int area(int r, int c, int h, int w) {
        check(r, c, h, w);
        byte[] bytes = takeTape();
        return put(formula(bytes, 0), r, c, h, w);
    }

    int clear(int r, int c, int h, int w) {
        check(r, c, h, w);
        whole(r, c, h, w);
        for (int cell : cells(r, c, h, w)) {
            content[cell] = null;
        }
        return finish(cells(r, c, h, w), null);
    }

    int copy(int r, int c, int h, int w, int tr, int tc) {
        check(r, c, h, w);
        check(tr, tc, h, w);
        whole(r, c, h, w);
        whole(tr, tc, h, w);
        Object[] next = content.clone();
        Map<Formula, Formula> twins = new HashMap<>();
        for (int cell : cells(r, c, h, w)) {
            Object what = content[cell];
            if (what instanceof Formula f) {
                if (!twins.containsKey(f)) {
                    Formula moved = rewritten(f, new Shift(tr - r, tc - c));
                    moved.row = f.row + tr - r;
                    moved.column = f.column + tc - c;
                    moved.high = f.high;
                    moved.wide = f.wide;
                    twins.put(f, moved);
                }
                what = twins.get(f);
            }
            next[cell + (tr - r) * COLUMNS + tc - c] = what;
        }
        content = next;
        return finish(cells(tr, tc, h, w), null);
    }

    int insert(boolean columns, int k, int n) {
        lines(columns, k, n);
        int many = columns ? COLUMNS : ROWS;
        for (Formula f : formulas()) {
            int first = columns ? f.column : f.row;
            int last = first + (columns ? f.wide : f.high) - 1;
            if (k > first && k <= last) {
                throw new IllegalStateException();
            }
        }
        for (int cell = 0; cell < content.length; cell++) {
            int line = columns ? cell % COLUMNS : cell / COLUMNS;
            if (content[cell] != null && line >= many - n) {
                throw new IndexOutOfBoundsException();
            }
        }
        return moveLines(new Lines(columns, k, n, false));
    }

    int remove(boolean columns, int k, int n) {
        lines(columns, k, n);
        if (columns) {
            whole(0, k, ROWS, n);
        } else {
            whole(k, 0, n, COLUMNS);
        }
        return moveLines(new Lines(columns, k, n, true));
    }

    int name() {
        byte[] bytes = takeTape();
        List<Token> first = tokens(bytes, 0);
        Token word = first.get(0);
        if (word.place != 0 || !word.kind.equals("WORD") || arity(word.text) != null) {
            place = 0;
            throw new UnsupportedOperationException();
        }
        Formula f = formula(bytes, word.text.length());
        if (f.shown().length() > 250 || !names.containsKey(word.text) && names.size() == 20) {
            throw new IndexOutOfBoundsException();
        }
        names.put(word.text, f);
        finish(null, word.text);
        return names.size();
    }

    int kind(int r, int c) {
        check(r, c, 1, 1);
        Object v = values[r * COLUMNS + c];
        return v == null ? 0 : v instanceof BigInteger ? 1 : v instanceof String ? 2 : v instanceof Boolean ? 3 : 4;
    }

    long value(int r, int c) {
        check(r, c, 1, 1);
        Object v = values[r * COLUMNS + c];
        if (v instanceof BigInteger n) {
            return n.longValueExact();
        }
        if (v instanceof String s) {
            return s.length();
        }
        if (v instanceof Boolean b) {
            return b ? 1 : 0;
        }
        return v instanceof Err e ? e.which : 0;
    }

    int show(int r, int c, boolean shown) {
        check(r, c, 1, 1);
        Object v = values[r * COLUMNS + c];
        String s = v instanceof Err e ? SIGNS[e.which] : text(v);
        if (shown) {
            Object what = content[r * COLUMNS + c];
            if (what instanceof Formula f) {
                s = f.shown();
            } else if (what instanceof String t) {
                s = t.equals(constant(t)) ? t : "'" + t;
            } else {
                s = text(what);
            }
        }
        result = s.getBytes(StandardCharsets.ISO_8859_1);
        return result.length;
    }

    long word(int i) {
        if (i < 0 || i >= result.length) {
            throw new IndexOutOfBoundsException();
        }
        return java.nio.ByteBuffer.wrap(Arrays.copyOfRange(result, i, i + 8)).getLong();
    }

    int count(int what) {
        switch (what) {
            case 0:
                return tape.length;
            case 1:
                return result.length;
            case 2:
                return filled();
            case 3:
                return place;
            case 4:
                return worked;
            default:
                throw new IllegalArgumentException();
        }
    }

    // ---- edits ----

    private static void check(int r, int c, int h, int w) {
        if (r < 0 || r > 79 || c < 0 || c > 25 || h < 1 || w < 1 || (long) r + h > 80 || (long) c + w > 26) {
            throw new IllegalArgumentException();
        }
    }

    private static void lines(boolean columns, int k, int n) {
        if (k < 0 || n < 1 || (long) k + n > (columns ? COLUMNS : ROWS)) {
            throw new IllegalArgumentException();
        }
    }

    private byte[] takeTape() {
        byte[] bytes = tape;
        tape = new byte[0];
        place = -1;
        return bytes;
    }

    private static Set<Integer> cells(int r, int c, int h, int w) {
        Set<Integer> all = new java.util.LinkedHashSet<>();
        for (int i = r; i < r + h; i++) {
            for (int j = c; j < c + w; j++) {
                all.add(i * COLUMNS + j);
            }
        }
        return all;
    }

    private static Set<Integer> cellsOf(Formula f) {
        return cells(f.row, f.column, f.high, f.wide);
    }

    private void whole(int r, int c, int h, int w) {
        Set<Integer> these = cells(r, c, h, w);
        for (int cell : these) {
            if (content[cell] instanceof Formula f && !these.containsAll(cellsOf(f))) {
                throw new IllegalStateException();
            }
        }
    }

    private Set<Formula> formulas() {
        Set<Formula> all = new java.util.LinkedHashSet<>();
        for (Object what : content) {
            if (what instanceof Formula f) {
                all.add(f);
            }
        }
        return all;
    }

    private int filled() {
        int n = 0;
        for (Object what : content) {
            n += what == null ? 0 : 1;
        }
        return n;
    }

    private int put(Formula f, int r, int c, int h, int w) {
        whole(r, c, h, w);
        if (f.shown().length() > 250) {
            throw new IndexOutOfBoundsException();
        }
        f.row = r;
        f.column = c;
        f.high = h;
        f.wide = w;
        for (int cell : cells(r, c, h, w)) {
            content[cell] = f;
        }
        return finish(cells(r, c, h, w), null);
    }

    private static Object constant(String s) {
        if (s.isEmpty()) {
            return null;
        }
        if (s.equals("TRUE") || s.equals("FALSE")) {
            return s.equals("TRUE");
        }
        if (s.matches("-?[0-9]{1,11}(\\.[0-9]{1,4})?")) {
            BigInteger n = new java.math.BigDecimal(s).movePointRight(4).toBigIntegerExact();
            if (n.abs().compareTo(GREATEST) <= 0) {
                return n;
            }
        }
        if (s.startsWith("=")) {
            return new Object();
        }
        return s.startsWith("'") ? s.substring(1) : s;
    }

    // ---- references that move ----

    private interface Way {
        /** Where the row or column comes to, or -1. */
        int goal(boolean column, int n, boolean fixed);
    }

    private record Shift(int down, int right) implements Way {
        public int goal(boolean column, int n, boolean fixed) {
            int there = fixed ? n : n + (column ? right : down);
            return there < 0 || there >= (column ? COLUMNS : ROWS) ? -1 : there;
        }
    }

    private record Lines(boolean columns, int k, int n, boolean out) implements Way {
        public int goal(boolean column, int at, boolean fixed) {
            if (column != columns || at < k) {
                return at;
            }
            if (out) {
                return at < k + n ? -1 : at - n;
            }
            return at + n >= (column ? COLUMNS : ROWS) ? -1 : at + n;
        }
    }

    private Formula rewritten(Formula f, Way way) {
        List<Token> next = new ArrayList<>();
        for (int k = 0; k < f.tokens.size(); k++) {
            Token t = f.tokens.get(k);
            if (!t.kind.equals("CELL")) {
                next.add(t);
                continue;
            }
            if (k + 2 < f.tokens.size() && f.tokens.get(k + 1).text.equals(":")) {
                next.add(new Token("ANY", range(t.ref, f.tokens.get(k + 2).ref, way), 0, null, null));
                k += 2;
                continue;
            }
            int row = way.goal(false, t.ref.row, t.ref.rowFixed);
            int column = way.goal(true, t.ref.column, t.ref.columnFixed);
            boolean lost = row < 0 || column < 0;
            next.add(new Token("ANY", lost ? "#REF!" : new Ref(row, t.ref.rowFixed, column, t.ref.columnFixed).text(),
                    0, null, null));
        }
        StringBuilder b = new StringBuilder();
        for (Token t : next) {
            b.append(t.text);
        }
        if (b.length() > 250) {
            throw new IndexOutOfBoundsException();
        }
        return formula(b.toString().getBytes(StandardCharsets.ISO_8859_1), 0);
    }

    private static String range(Ref a, Ref b, Way way) {
        Object[] rows = {a.row, a.rowFixed, b.row, b.rowFixed};
        Object[] columns = {a.column, a.columnFixed, b.column, b.columnFixed};
        if (!axis(rows, false, way) || !axis(columns, true, way)) {
            return "#REF!";
        }
        return new Ref((int) rows[0], (boolean) rows[1], (int) columns[0], (boolean) columns[1]).text() + ":"
                + new Ref((int) rows[2], (boolean) rows[3], (int) columns[2], (boolean) columns[3]).text();
    }

    private static void order(Object[] x) {
        if ((int) x[0] > (int) x[2]) {
            Object n = x[0];
            Object f = x[1];
            x[0] = x[2];
            x[1] = x[3];
            x[2] = n;
            x[3] = f;
        }
    }

    private static boolean axis(Object[] x, boolean column, Way way) {
        if (way instanceof Shift) {
            x[0] = way.goal(column, (int) x[0], (boolean) x[1]);
            x[2] = way.goal(column, (int) x[2], (boolean) x[3]);
            if ((int) x[0] < 0 || (int) x[2] < 0) {
                return false;
            }
            order(x);
            return true;
        }
        order(x);
        List<Integer> left = new ArrayList<>();
        for (int k = (int) x[0]; k <= (int) x[2]; k++) {
            if (way.goal(column, k, false) >= 0) {
                left.add(way.goal(column, k, false));
            }
        }
        if (left.isEmpty()) {
            return false;
        }
        x[0] = left.get(0);
        x[2] = left.get(left.size() - 1);
        return true;
    }

    private int moveLines(Lines way) {
        Object[] next = new Object[content.length];
        Map<Formula, Formula> twins = new HashMap<>();
        for (int cell = 0; cell < content.length; cell++) {
            int row = way.goal(false, cell / COLUMNS, false);
            int column = way.goal(true, cell % COLUMNS, false);
            if (content[cell] == null || row < 0 || column < 0) {
                continue;
            }
            Object what = content[cell];
            if (what instanceof Formula f) {
                if (!twins.containsKey(f)) {
                    Formula moved = rewritten(f, way);
                    moved.row = row;
                    moved.column = column;
                    moved.high = f.high;
                    moved.wide = f.wide;
                    twins.put(f, moved);
                }
                what = twins.get(f);
            }
            next[row * COLUMNS + column] = what;
        }
        Map<String, Formula> nextNames = new LinkedHashMap<>();
        for (Map.Entry<String, Formula> e : names.entrySet()) {
            nextNames.put(e.getKey(), rewritten(e.getValue(), way));
        }
        content = next;
        names.putAll(nextNames);
        return finish(cells(0, 0, ROWS, COLUMNS), null);
    }

    // ---- what hangs on what ----

    private int finish(Set<Integer> changed, String changedName) {
        values = new Object[content.length];
        Set<Formula> all = formulas();
        Map<Formula, Set<Integer>> directCells = new HashMap<>();
        Map<Formula, Set<String>> directNames = new HashMap<>();
        for (Formula f : all) {
            Set<String> words = new HashSet<>();
            Set<Integer> these = new HashSet<>();
            collect(f.tree, these, words);
            directCells.put(f, these);
            directNames.put(f, words);
        }
        Map<Formula, Set<Formula>> on = new HashMap<>();
        for (Formula f : all) {
            Set<Formula> these = new HashSet<>();
            for (int cell : directCells.get(f)) {
                if (content[cell] instanceof Formula g) {
                    these.add(g);
                }
            }
            on.put(f, these);
        }
        Map<Formula, Set<Formula>> closed = new HashMap<>();
        for (Formula f : all) {
            closed.put(f, closure(f, on));
        }
        worked = 0;
        for (Formula f : all) {
            Set<Formula> with = new HashSet<>(closed.get(f));
            with.add(f);
            boolean hit = changed != null && cellsOf(f).stream().anyMatch(changed::contains);
            for (Formula g : with) {
                hit |= changed != null && directCells.get(g).stream().anyMatch(changed::contains);
                hit |= changedName != null && directNames.get(g).contains(changedName);
            }
            worked += hit ? 1 : 0;
        }
        for (int cell = 0; cell < content.length; cell++) {
            if (content[cell] != null && !(content[cell] instanceof Formula)) {
                values[cell] = content[cell];
            }
        }
        Set<Formula> done = new HashSet<>();
        for (Formula f : all) {
            workOut(f, on, closed, done);
        }
        return filled();
    }

    private static Set<Formula> closure(Formula f, Map<Formula, Set<Formula>> on) {
        Set<Formula> seen = new HashSet<>();
        List<Formula> todo = new ArrayList<>(on.get(f));
        while (!todo.isEmpty()) {
            Formula g = todo.remove(todo.size() - 1);
            if (seen.add(g)) {
                todo.addAll(on.get(g));
            }
        }
        return seen;
    }

    /** The cells and names that stand in it and in the names it hangs on. */
    private void collect(Node n, Set<Integer> these, Set<String> words) {
        if (n.op.equals("CELL") || n.op.equals("RANGE")) {
            these.addAll(cells(n.range[0], n.range[1], n.range[2], n.range[3]));
        }
        if (n.op.equals("WORD") && names.containsKey((String) n.value) && words.add((String) n.value)) {
            collect(names.get((String) n.value).tree, these, words);
        }
        for (Node part : n.parts) {
            collect(part, these, words);
        }
    }

    private void workOut(Formula f, Map<Formula, Set<Formula>> on, Map<Formula, Set<Formula>> closed,
            Set<Formula> done) {
        if (!done.add(f)) {
            return;
        }
        boolean circular = closed.get(f).contains(f);
        Object v = new Err(7);
        if (!circular) {
            for (Formula g : on.get(f)) {
                workOut(g, on, closed, done);
            }
            for (Formula g : on.get(f)) {
                if (closed.get(g).contains(g)) {
                    fill(g, new Err(7));
                }
            }
            v = worth(f.tree);
        }
        fill(f, v);
    }

    private void fill(Formula f, Object v) {
        for (int i = 0; i < f.high; i++) {
            for (int j = 0; j < f.wide; j++) {
                values[(f.row + i) * COLUMNS + f.column + j] = lone(at(v, i, j));
            }
        }
    }

    // ---- syntax ----

    private static int[] arity(String word) {
        for (String f : FUNCTIONS) {
            String[] parts = f.split(" ");
            if (parts[0].equals(word)) {
                return new int[] {Integer.parseInt(parts[1]), Integer.parseInt(parts[2])};
            }
        }
        return null;
    }

    private static List<Token> tokens(byte[] bytes, int from) {
        String s = new String(bytes, StandardCharsets.ISO_8859_1);
        List<Token> all = new ArrayList<>();
        int at = from;
        while (at < s.length()) {
            if (s.charAt(at) == ' ') {
                at++;
                continue;
            }
            Token t = token(s, at);
            all.add(t);
            if (t.kind.equals("BAD")) {
                return all;
            }
            at += ((String) (t.kind.equals("NUM") ? t.value : t.text)).length();
        }
        all.add(new Token("END", "", s.length(), null, null));
        return all;
    }

    private static java.util.regex.Matcher look(String pattern, String s, int at) {
        java.util.regex.Matcher m = java.util.regex.Pattern.compile(pattern).matcher(s);
        m.region(at, s.length());
        m.useTransparentBounds(true);
        return m.lookingAt() ? m : null;
    }

    private static Token token(String s, int at) {
        java.util.regex.Matcher m = look("[0-9]{1,11}(\\.[0-9]{1,4})?", s, at);
        if (m != null) {
            BigInteger n = new java.math.BigDecimal(m.group()).movePointRight(4).toBigIntegerExact();
            return n.compareTo(GREATEST) > 0 ? new Token("BAD", "", at, null, null)
                    : new Token("NUM", text(n), at, m.group(), null);
        }
        m = look("\"(?:[ !#-~]|\"\")*+\"", s, at);
        if (m != null) {
            return new Token("TEXT", m.group(), at, null, null);
        }
        for (int e = 1; e <= 8; e++) {
            if (s.startsWith(SIGNS[e], at)) {
                return new Token("ERR", SIGNS[e], at, new Err(e), null);
            }
        }
        m = look("(\\$?)([A-Z])(\\$?)([1-9][0-9]?)(?![A-Z0-9_])", s, at);
        if (m != null && Integer.parseInt(m.group(4)) <= 80) {
            return new Token("CELL", m.group(), at, null, new Ref(Integer.parseInt(m.group(4)) - 1,
                    !m.group(3).isEmpty(), m.group(2).charAt(0) - 'A', !m.group(1).isEmpty()));
        }
        m = look("[A-Z][A-Z0-9_]{0,11}", s, at);
        if (m != null) {
            boolean truth = m.group().equals("TRUE") || m.group().equals("FALSE");
            return new Token(truth ? "TRUTH" : "WORD", m.group(), at, m.group().equals("TRUE"), null);
        }
        m = look("<>|<=|>=|[-=<>&+*/%(),;:{}]", s, at);
        return m != null ? new Token("SIGN", m.group(), at, null, null) : new Token("BAD", "", at, null, null);
    }

    private Formula formula(byte[] bytes, int from) {
        List<Token> all = tokens(bytes, from);
        try {
            Parser p = new Parser(all);
            p.sign("=");
            Node tree = p.e();
            if (!p.here().kind.equals("END")) {
                throw new Broken(p.here().place);
            }
            return new Formula(all, tree);
        } catch (Broken b) {
            place = b.place;
            throw new UnsupportedOperationException();
        }
    }

    private static final class Parser {
        private final List<Token> all;
        private int at;
        private int open;

        Parser(List<Token> all) {
            this.all = all;
        }

        Token here() {
            return all.get(Math.min(at, all.size() - 1));
        }

        boolean is(String sign) {
            return here().kind.equals("SIGN") && here().text.equals(sign);
        }

        Broken broken() {
            return new Broken(here().place);
        }

        void sign(String sign) {
            if (!is(sign)) {
                throw broken();
            }
            at++;
        }

        void opening(String sign) {
            if (!is(sign) || open == 12) {
                throw broken();
            }
            open++;
            at++;
        }

        void closing(String sign) {
            sign(sign);
            open--;
        }

        Node e() {
            Node left = c();
            while (is("=") || is("<>") || is("<=") || is(">=") || is("<") || is(">")) {
                String op = here().text;
                at++;
                left = Node.of(op, left, c());
            }
            return left;
        }

        Node c() {
            Node left = s();
            while (is("&")) {
                at++;
                left = Node.of("&", left, s());
            }
            return left;
        }

        Node s() {
            Node left = t();
            while (is("+") || is("-")) {
                String op = here().text;
                at++;
                left = Node.of(op, left, t());
            }
            return left;
        }

        Node t() {
            Node left = f();
            while (is("*") || is("/")) {
                String op = here().text;
                at++;
                left = Node.of(op, left, f());
            }
            return left;
        }

        Node f() {
            if (is("+") || is("-")) {
                String op = is("+") ? "PLUS" : "MINUS";
                at++;
                return Node.of(op, f());
            }
            Node n = p();
            while (is("%")) {
                at++;
                n = Node.of("%", n);
            }
            return n;
        }

        Node p() {
            Node n = a();
            while (is("(")) {
                opening("(");
                List<Node> parts = new ArrayList<>();
                parts.add(n);
                if (!is(")")) {
                    parts.add(e());
                    while (is(",")) {
                        at++;
                        parts.add(e());
                    }
                }
                closing(")");
                n = new Node("CALL", parts, null, null, null);
            }
            return n;
        }

        Node a() {
            Token t = here();
            if (is("(")) {
                opening("(");
                Node n = e();
                closing(")");
                return n;
            }
            if (is("{")) {
                return braces();
            }
            if (t.kind.equals("CELL")) {
                at++;
                if (!is(":")) {
                    return new Node("CELL", List.of(), null, new int[] {t.ref.row, t.ref.column, 1, 1}, null);
                }
                at++;
                Token u = here();
                if (!u.kind.equals("CELL")) {
                    throw broken();
                }
                at++;
                int r = Math.min(t.ref.row, u.ref.row);
                int c = Math.min(t.ref.column, u.ref.column);
                return new Node("RANGE", List.of(), null, new int[] {r, c, Math.abs(t.ref.row - u.ref.row) + 1,
                    Math.abs(t.ref.column - u.ref.column) + 1}, null);
            }
            if (t.kind.equals("WORD")) {
                at++;
                if (is("(") && arity(t.text) != null) {
                    opening("(");
                    return function(t.text);
                }
                return new Node("WORD", List.of(), t.text, null, null);
            }
            return new Node("CONST", List.of(), literal(), null, null);
        }

        Object literal() {
            Token t = here();
            if (t.kind.equals("NUM")) {
                at++;
                return new java.math.BigDecimal(t.text).movePointRight(4).toBigIntegerExact();
            }
            if (t.kind.equals("TEXT")) {
                at++;
                String s = t.text.substring(1, t.text.length() - 1).replace("\"\"", "\"");
                return s.length() > 60 ? new Err(2) : s;
            }
            if (t.kind.equals("ERR") || t.kind.equals("TRUTH")) {
                at++;
                return t.value;
            }
            throw broken();
        }

        Node braces() {
            opening("{");
            List<List<Object>> rows = new ArrayList<>();
            rows.add(new ArrayList<>());
            while (true) {
                List<Object> row = rows.get(rows.size() - 1);
                if (is("-")) {
                    at++;
                    if (!here().kind.equals("NUM")) {
                        throw broken();
                    }
                    row.add(((BigInteger) literal()).negate());
                } else {
                    row.add(literal());
                }
                int due = rows.get(0).size();
                if (is(",")) {
                    if (rows.size() > 1 && row.size() == due) {
                        throw broken();
                    }
                } else if (is(";") || is("}")) {
                    if (row.size() < due) {
                        throw broken();
                    }
                    if (is("}")) {
                        break;
                    }
                    rows.add(new ArrayList<>());
                } else {
                    throw broken();
                }
                at++;
            }
            closing("}");
            List<Object> items = new ArrayList<>();
            rows.forEach(items::addAll);
            return new Node("BRACES", List.of(), new Arr(rows.size(), rows.get(0).size(), items.toArray()), null, null);
        }

        boolean wordAndComma() {
            Token next = all.get(Math.min(at + 1, all.size() - 1));
            return here().kind.equals("WORD") && next.kind.equals("SIGN") && next.text.equals(",");
        }

        Node function(String f) {
            List<Node> parts = new ArrayList<>();
            List<String> words = new ArrayList<>();
            if (f.equals("LET")) {
                do {
                    if (!here().kind.equals("WORD")) {
                        throw broken();
                    }
                    words.add(here().text);
                    at++;
                    sign(",");
                    parts.add(e());
                    sign(",");
                } while (words.size() < 5 && wordAndComma());
                parts.add(e());
            } else if (f.equals("LAMBDA")) {
                while (words.size() < 5 && wordAndComma()) {
                    words.add(here().text);
                    at += 2;
                }
                parts.add(e());
            } else {
                int[] due = arity(f);
                parts.add(e());
                while (is(",") && parts.size() < due[1]) {
                    at++;
                    parts.add(e());
                }
                if (is(")") && parts.size() < due[0]) {
                    throw broken();
                }
            }
            if (is(",")) {
                at++;
                throw broken();
            }
            closing(")");
            return new Node(f, parts, null, null, words);
        }
    }

    // ---- working out ----

    private int calls;
    private int depth;
    private long given;
    private long spelled;
    private long elements;

    private Object worth(Node tree) {
        calls = 0;
        depth = 0;
        given = 0;
        spelled = 0;
        elements = 0;
        try {
            return eval(tree, null);
        } catch (Limit l) {
            return new Err(8);
        }
    }

    private static Object lone(Object v) {
        return v instanceof Fun ? new Err(8) : v;
    }

    private static Object single(Object v) {
        return lone(v instanceof Arr a ? a.items[0] : v);
    }

    private static int rows(Object v) {
        return v instanceof Arr a ? a.rows : 1;
    }

    private static int columns(Object v) {
        return v instanceof Arr a ? a.columns : 1;
    }

    private static Object at(Object v, int i, int j) {
        if (!(v instanceof Arr a)) {
            return v;
        }
        int r = a.rows == 1 ? 0 : i;
        int c = a.columns == 1 ? 0 : j;
        return r < a.rows && c < a.columns ? a.items[r * a.columns + c] : new Err(6);
    }

    private static Object item(Object v, int k) {
        return v instanceof Arr a ? a.items[k] : v;
    }

    private Object counted(Object v) {
        if (v instanceof Arr a) {
            elements += a.items.length;
            if (elements > 300000) {
                throw new Limit();
            }
        }
        return v;
    }

    private static Arr blank(long rows, long columns) {
        if (rows > 2080 || columns > 2080 || rows * columns > 2080) {
            throw new Limit();
        }
        return new Arr((int) rows, (int) columns, new Object[(int) (rows * columns)]);
    }

    private Env bound(Env env, String word, Object v) {
        if (v instanceof Arr a) {
            given += a.items.length;
            if (given > 20000) {
                throw new Limit();
            }
        }
        return new Env(word, v, env);
    }

    private Object made(String s) {
        if (s.length() > 60) {
            return new Err(2);
        }
        spelled += s.length();
        if (spelled > 100000) {
            throw new Limit();
        }
        return s;
    }

    private void enter() {
        depth++;
        if (depth > 10) {
            throw new Limit();
        }
    }

    private Object call(Object f, Object... args) {
        Fun fun = (Fun) f;
        if (fun.words.size() != args.length) {
            return new Err(2);
        }
        calls++;
        if (calls > 400) {
            throw new Limit();
        }
        enter();
        Env env = fun.env;
        for (int k = 0; k < args.length; k++) {
            env = bound(env, fun.words.get(k), args[k]);
        }
        Object v = eval(fun.body, env);
        depth--;
        return v;
    }

    private Object eval(Node n, Env env) {
        switch (n.op) {
            case "CONST":
                return n.value;
            case "BRACES":
                return counted(n.value);
            case "CELL":
                return values[n.range[0] * COLUMNS + n.range[1]];
            case "RANGE": {
                Object[] items = cells(n.range[0], n.range[1], n.range[2], n.range[3]).stream()
                        .map(c -> values[c]).toArray();
                return counted(new Arr(n.range[2], n.range[3], items));
            }
            case "WORD":
                return meaning((String) n.value, env);
            case "PLUS":
                return eval(n.parts.get(0), env);
            case "CALL": {
                Object f = eval(n.parts.get(0), env);
                Object[] args = new Object[n.parts.size() - 1];
                for (int k = 0; k < args.length; k++) {
                    args[k] = eval(n.parts.get(k + 1), env);
                }
                return f instanceof Fun ? call(f, args) : f instanceof Err ? f : new Err(2);
            }
            case "IF":
                return evalIf(n, env);
            case "IFERROR": {
                Object a = eval(n.parts.get(0), env);
                if (a instanceof Arr) {
                    return each(List.of(a, eval2(n.parts.get(1), env)),
                            x -> x.get(0) instanceof Err ? x.get(1) : x.get(0));
                }
                return a instanceof Err ? eval(n.parts.get(1), env) : a;
            }
            case "CHOOSE": {
                Object v = eval(n.parts.get(0), env);
                Object i = v instanceof Arr ? new Err(2) : number(lone(v));
                if (i instanceof Err) {
                    return i;
                }
                long k = cut(i);
                return k < 1 || k >= n.parts.size() ? new Err(2) : eval(n.parts.get((int) k), env);
            }
            case "LET": {
                Env inner = env;
                for (int k = 0; k < n.words.size(); k++) {
                    inner = bound(inner, n.words.get(k), eval(n.parts.get(k), inner));
                }
                return eval(n.parts.get(n.parts.size() - 1), inner);
            }
            case "LAMBDA":
                return new Fun(n.words, n.parts.get(0), env);
            default:
                return strict(n, env);
        }
    }

    /** NOTHING can not stand in a List.of. */
    private static final Object NONE = new Object() { };

    private Object eval2(Node n, Env env) {
        Object v = eval(n, env);
        return v == null ? NONE : v;
    }

    private Object meaning(String word, Env env) {
        for (Env e = env; e != null; e = e.outer) {
            if (e.word.equals(word)) {
                return counted(e.value);
            }
        }
        if (!names.containsKey(word)) {
            return new Err(4);
        }
        enter();
        Object v = eval(names.get(word).tree, null);
        depth--;
        return v;
    }

    private Object evalIf(Node n, Env env) {
        Object c = eval(n.parts.get(0), env);
        Node no = n.parts.size() > 2 ? n.parts.get(2) : new Node("CONST", List.of(), false, null, null);
        if (c instanceof Arr) {
            Object a = eval2(n.parts.get(1), env);
            Object b = eval2(no, env);
            return each(List.of(c, a, b), x -> {
                Object t = truth(x.get(0));
                return t instanceof Err ? t : (boolean) t ? x.get(1) : x.get(2);
            });
        }
        Object t = truth(lone(c));
        return t instanceof Err ? t : eval((boolean) t ? n.parts.get(1) : no, env);
    }

    private interface Job {
        Object of(List<Object> x);
    }

    private Object each(List<Object> given, Job job) {
        List<Object> args = new ArrayList<>();
        boolean array = false;
        int rows = 1;
        int columns = 1;
        for (Object g : given) {
            Object v = lone(g == NONE ? null : g);
            args.add(v);
            array |= v instanceof Arr;
            rows = Math.max(rows, rows(v));
            columns = Math.max(columns, columns(v));
        }
        if (!array) {
            return job.of(args);
        }
        Arr out = blank(rows, columns);
        counted(out);
        for (int i = 0; i < rows; i++) {
            for (int j = 0; j < columns; j++) {
                List<Object> here = new ArrayList<>();
                for (Object v : args) {
                    here.add(at(v, i, j));
                }
                out.items[i * columns + j] = job.of(here);
            }
        }
        return out;
    }

    static String text(Object v) {
        if (v instanceof BigInteger n) {
            return new java.math.BigDecimal(n, 4).stripTrailingZeros().toPlainString();
        }
        if (v instanceof Boolean b) {
            return b ? "TRUE" : "FALSE";
        }
        return v == null ? "" : (String) v;
    }

    private static Object number(Object v) {
        if (v == null) {
            return BigInteger.ZERO;
        }
        if (v instanceof Boolean b) {
            return b ? UNIT : BigInteger.ZERO;
        }
        return v instanceof String ? new Err(2) : v;
    }

    private static Object truth(Object v) {
        if (v == null) {
            return false;
        }
        if (v instanceof BigInteger n) {
            return n.signum() != 0;
        }
        return v instanceof String ? new Err(2) : v;
    }

    private static long cut(Object n) {
        return ((BigInteger) n).divide(UNIT).longValueExact();
    }

    private static Object bounded(BigInteger n) {
        return n.abs().compareTo(GREATEST) > 0 ? new Err(5) : n;
    }

    /** Halves away from 0. */
    private static BigInteger divided(BigInteger a, BigInteger b) {
        BigInteger twice = a.abs().shiftLeft(1).add(b.abs());
        BigInteger q = twice.divide(b.abs().shiftLeft(1));
        return a.signum() * b.signum() < 0 ? q.negate() : q;
    }

    private static BigInteger floor(BigInteger a, BigInteger b) {
        BigInteger[] q = a.divideAndRemainder(b);
        return q[1].signum() != 0 && q[1].signum() != b.signum() ? q[0].subtract(BigInteger.ONE) : q[0];
    }

    private static Object plain(Object v, Object other) {
        if (v != null) {
            return v;
        }
        return other instanceof String ? "" : other instanceof Boolean ? (Object) false : BigInteger.ZERO;
    }

    private static int rank(Object v) {
        return v instanceof BigInteger ? 0 : v instanceof String ? 1 : 2;
    }

    private static int compare(Object a, Object b) {
        Object x = plain(a, b);
        Object y = plain(b, a);
        if (rank(x) != rank(y)) {
            return rank(x) - rank(y);
        }
        if (x instanceof BigInteger n) {
            return n.compareTo((BigInteger) y);
        }
        return x instanceof String s ? s.compareTo((String) y) : Boolean.compare((boolean) x, (boolean) y);
    }

    private Object strict(Node n, Env env) {
        List<Object> args = new ArrayList<>();
        for (Node part : n.parts) {
            args.add(eval(part, env));
        }
        switch (n.op) {
            case "SUM": case "MIN": case "MAX": case "COUNT": case "AVERAGE": case "PRODUCT": case "AND": case "OR":
            case "COUNTA":
                return fold(n, args);
            case "ROWS": case "COLUMNS": case "TRANSPOSE": case "SORT": case "UNIQUE":
                return table(n.op, "a", args);
            case "INDEX":
                return table(n.op, "axx", args);
            case "MATCH":
                return table(n.op, "xa", args);
            case "SEQUENCE":
                return table(n.op, "xxxx", args);
            case "FILTER":
                return table(n.op, "aa", args);
            case "VLOOKUP":
                return table(n.op, "xax", args);
            case "SUMIF":
                return table(n.op, "axa", args);
            case "MAP":
                return table(n.op, "af", args);
            case "REDUCE":
                return table(n.op, "aaf", args);
            case "MAKEARRAY":
                return table(n.op, "xxf", args);
            default:
                args.replaceAll(v -> v == null ? NONE : v);
                return each(args, x -> one(n.op, x));
        }
    }

    private Object one(String op, List<Object> x) {
        for (Object v : x) {
            if (v instanceof Err) {
                return v;
            }
        }
        Object a = x.get(0);
        Object b = x.size() > 1 ? x.get(1) : null;
        switch (op) {
            case "&":
                return made(text(a) + text(b));
            case "=":
                return compare(a, b) == 0;
            case "<>":
                return compare(a, b) != 0;
            case "<":
                return compare(a, b) < 0;
            case ">":
                return compare(a, b) > 0;
            case "<=":
                return compare(a, b) <= 0;
            case ">=":
                return compare(a, b) >= 0;
            case "NOT": {
                Object t = truth(a);
                return t instanceof Err ? t : (Object) !(boolean) t;
            }
            case "LEN":
                return BigInteger.valueOf(text(a).length()).multiply(UNIT);
            case "UPPER":
                return made(text(a).toUpperCase(java.util.Locale.ROOT));
            case "FIND": {
                int k = text(b).indexOf(text(a));
                return k < 0 ? new Err(2) : BigInteger.valueOf(k + 1).multiply(UNIT);
            }
            case "LEFT": case "RIGHT": case "MID":
                return part(op, text(a), x);
            default:
                return arithmetic(op, x);
        }
    }

    private Object part(String op, String s, List<Object> x) {
        Object first = number(x.get(1));
        Object second = x.size() > 2 ? number(x.get(2)) : BigInteger.ZERO;
        if (first instanceof Err || second instanceof Err) {
            return new Err(2);
        }
        long n = cut(op.equals("MID") ? second : first);
        long i = op.equals("MID") ? cut(first) : 1;
        if (n < 0 || i < 1) {
            return new Err(2);
        }
        StringBuilder b = new StringBuilder();
        for (int k = 0; k < s.length(); k++) {
            boolean in = op.equals("LEFT") ? k < n : op.equals("RIGHT") ? k >= s.length() - n : k >= i - 1 && k < i - 1 + n;
            if (in) {
                b.append(s.charAt(k));
            }
        }
        return made(b.toString());
    }

    private static Object arithmetic(String op, List<Object> x) {
        Object p = number(x.get(0));
        Object q = x.size() > 1 ? number(x.get(1)) : BigInteger.ZERO;
        if (p instanceof Err || q instanceof Err) {
            return p instanceof Err ? p : q;
        }
        BigInteger a = (BigInteger) p;
        BigInteger b = (BigInteger) q;
        switch (op) {
            case "+":
                return bounded(a.add(b));
            case "-":
                return bounded(a.subtract(b));
            case "*":
                return bounded(divided(a.multiply(b), UNIT));
            case "/":
                return b.signum() == 0 ? new Err(1) : bounded(divided(a.multiply(UNIT), b));
            case "%":
                return bounded(divided(a, BigInteger.valueOf(100)));
            case "MINUS":
                return a.negate();
            case "ABS":
                return a.abs();
            case "INT":
                return floor(a, UNIT).multiply(UNIT);
            case "MOD":
                return b.signum() == 0 ? new Err(1) : a.subtract(b.multiply(floor(a, b)));
            case "ROUND": {
                long n = cut(b);
                if (n < -9 || n > 4) {
                    return new Err(5);
                }
                BigInteger step = BigInteger.TEN.pow((int) (4 - n));
                return bounded(divided(a, step).multiply(step));
            }
            default:
                throw new AssertionError(op);
        }
    }

    private Object fold(Node n, List<Object> args) {
        List<Object> taken = new ArrayList<>();
        String f = n.op;
        int all = 0;
        for (int k = 0; k < args.size(); k++) {
            Object v = args.get(k);
            if (v instanceof Fun) {
                return new Err(8);
            }
            boolean loose = v instanceof Arr || n.parts.get(k).op.equals("CELL");
            for (int i = 0; i < rows(v) * columns(v); i++) {
                Object x = item(v, i);
                if (f.equals("COUNTA")) {
                    all += x == null ? 0 : 1;
                } else if (f.equals("COUNT") && (x instanceof Err || x instanceof String)) {
                    continue;
                } else if (x instanceof Err) {
                    return x;
                } else if (f.equals("AND") || f.equals("OR")) {
                    if (!loose || x instanceof BigInteger || x instanceof Boolean) {
                        taken.add(truth(x));
                    }
                } else if (!loose || x instanceof BigInteger) {
                    taken.add(number(x));
                }
                if (!taken.isEmpty() && taken.get(taken.size() - 1) instanceof Err e) {
                    return e;
                }
            }
        }
        switch (f) {
            case "COUNTA":
                return BigInteger.valueOf(all).multiply(UNIT);
            case "COUNT":
                return BigInteger.valueOf(taken.size()).multiply(UNIT);
            case "AND":
                return !taken.contains(false);
            case "OR":
                return taken.contains(true);
            case "MIN":
                return taken.stream().map(v -> (BigInteger) v).reduce(BigInteger::min).orElse(BigInteger.ZERO);
            case "MAX":
                return taken.stream().map(v -> (BigInteger) v).reduce(BigInteger::max).orElse(BigInteger.ZERO);
            case "PRODUCT": {
                Object p = taken.isEmpty() ? BigInteger.ZERO : UNIT;
                for (Object v : taken) {
                    p = p instanceof Err ? p : arithmetic("*", List.of(p, v));
                }
                return p;
            }
            case "AVERAGE": {
                BigInteger exact = taken.stream().map(v -> (BigInteger) v).reduce(BigInteger.ZERO, BigInteger::add);
                return taken.isEmpty() ? new Err(1) : divided(exact, BigInteger.valueOf(taken.size()));
            }
            default: {
                Object s = BigInteger.ZERO;
                for (Object v : taken) {
                    s = s instanceof Err ? s : arithmetic("+", List.of(s, v));
                }
                return s;
            }
        }
    }

    private static boolean same(Object x, Object y) {
        if (x instanceof Err || y instanceof Err) {
            return x instanceof Err && x.equals(y);
        }
        return compare(x, y) == 0;
    }

    private Object rowsOf(Object a, List<Integer> rows) {
        if (!(a instanceof Arr arr)) {
            return a;
        }
        Arr out = blank(rows.size(), arr.columns);
        for (int k = 0; k < rows.size(); k++) {
            for (int j = 0; j < arr.columns; j++) {
                out.items[k * arr.columns + j] = arr.items[rows.get(k) * arr.columns + j];
            }
        }
        return counted(out);
    }

    private Object table(String f, String shape, List<Object> args) {
        for (int k = 0; k < args.size(); k++) {
            if (shape.charAt(k) == 'x') {
                args.set(k, single(args.get(k)));
            }
        }
        if (f.equals("VLOOKUP") && !(args.get(1) instanceof Err) && !(args.get(1) instanceof Fun)
                && number(args.get(2)) instanceof BigInteger n
                && (cut(n) < 1 || cut(n) > columns(args.get(1)))) {
            return new Err(3);
        }
        for (int k = 0; k < args.size(); k++) {
            if (args.get(k) instanceof Err) {
                return args.get(k);
            }
            if (args.get(k) instanceof Fun && shape.charAt(k) != 'f') {
                return new Err(8);
            }
        }
        Object a = args.get(0);
        Object b = args.size() > 1 ? args.get(1) : null;
        Object c = args.size() > 2 ? args.get(2) : null;
        int size = rows(a) * columns(a);
        switch (f) {
            case "ROWS":
                return BigInteger.valueOf(rows(a)).multiply(UNIT);
            case "COLUMNS":
                return BigInteger.valueOf(columns(a)).multiply(UNIT);
            case "TRANSPOSE": {
                Arr out = blank(columns(a), rows(a));
                for (int k = 0; k < size; k++) {
                    out.items[k] = at(a, k % rows(a), k / rows(a));
                }
                return counted(out);
            }
            case "SORT":
            case "UNIQUE":
            case "FILTER":
                return select(f, a, b);
            case "INDEX": {
                Object r = number(b);
                Object s = number(c);
                if (r instanceof Err || s instanceof Err) {
                    return new Err(2);
                }
                long i = cut(r) == 0 && rows(a) == 1 ? 1 : cut(r);
                long j = cut(s) == 0 && columns(a) == 1 ? 1 : cut(s);
                boolean out = i < 1 || j < 1 || i > rows(a) || j > columns(a);
                return out ? new Err(3) : at(a, (int) i - 1, (int) j - 1);
            }
            case "MATCH":
                if (rows(b) > 1 && columns(b) > 1) {
                    return new Err(6);
                }
                for (int k = 0; k < rows(b) * columns(b); k++) {
                    if (same(a, item(b, k))) {
                        return BigInteger.valueOf(k + 1).multiply(UNIT);
                    }
                }
                return new Err(6);
            case "SEQUENCE":
                return sequence(args);
            case "VLOOKUP": {
                Object n = number(c);
                if (n instanceof Err) {
                    return n;
                }
                for (int i = 0; i < rows(b); i++) {
                    if (same(a, at(b, i, 0))) {
                        return at(b, i, (int) cut(n) - 1);
                    }
                }
                return new Err(6);
            }
            case "SUMIF": {
                if (rows(a) != rows(c) || columns(a) != columns(c)) {
                    return new Err(2);
                }
                Object s = BigInteger.ZERO;
                for (int k = 0; k < size; k++) {
                    if (same(b, item(a, k)) && item(c, k) instanceof BigInteger v && !(s instanceof Err)) {
                        s = arithmetic("+", List.of(s, v));
                    }
                }
                return s;
            }
            default:
                return calling(f, args);
        }
    }

    private Object sequence(List<Object> args) {
        List<BigInteger> n = new ArrayList<>();
        for (Object v : args) {
            if (number(v) instanceof Err e) {
                return e;
            }
            n.add((BigInteger) number(v));
        }
        if (cut(n.get(0)) < 1 || cut(n.get(1)) < 1) {
            return new Err(8);
        }
        Arr out = blank(cut(n.get(0)), cut(n.get(1)));
        for (int k = 0; k < out.items.length; k++) {
            out.items[k] = bounded(n.get(2).add(n.get(3).multiply(BigInteger.valueOf(k))));
        }
        return counted(out);
    }

    private Object select(String f, Object a, Object keep) {
        List<Integer> rows = new ArrayList<>();
        if (f.equals("FILTER") && (rows(keep) != rows(a) || columns(keep) != 1)) {
            return new Err(2);
        }
        for (int i = 0; i < rows(a); i++) {
            boolean stays = true;
            if (f.equals("FILTER")) {
                Object t = truth(item(keep, i));
                if (t instanceof Err) {
                    return t;
                }
                stays = (boolean) t;
            } else if (f.equals("UNIQUE")) {
                for (int row : rows) {
                    boolean alike = true;
                    for (int j = 0; j < columns(a); j++) {
                        alike &= same(at(a, row, j), at(a, i, j));
                    }
                    stays &= !alike;
                }
            }
            if (stays) {
                rows.add(i);
            }
        }
        if (f.equals("SORT")) {
            rows.sort((i, j) -> {
                Object x = at(a, i, 0) == null ? BigInteger.ZERO : at(a, i, 0);
                Object y = at(a, j, 0) == null ? BigInteger.ZERO : at(a, j, 0);
                if (x instanceof Err || y instanceof Err) {
                    return Boolean.compare(x instanceof Err, y instanceof Err);
                }
                return compare(x, y);
            });
        }
        return rows.isEmpty() ? new Err(8) : rowsOf(a, rows);
    }

    private Object calling(String f, List<Object> args) {
        Object a = args.get(0);
        Object fun = args.get(args.size() - 1);
        if (f.equals("MAKEARRAY")) {
            Object r = number(a);
            Object c = number(args.get(1));
            if (r instanceof Err || c instanceof Err) {
                return new Err(2);
            }
            if (cut(r) < 1 || cut(c) < 1) {
                return new Err(8);
            }
            if (!(fun instanceof Fun)) {
                return new Err(2);
            }
            Arr out = blank(cut(r), cut(c));
            for (int k = 0; k < out.items.length; k++) {
                out.items[k] = single(call(fun, BigInteger.valueOf(k / out.columns + 1).multiply(UNIT),
                        BigInteger.valueOf(k % out.columns + 1).multiply(UNIT)));
            }
            return counted(out);
        }
        if (!(fun instanceof Fun)) {
            return new Err(2);
        }
        if (f.equals("REDUCE")) {
            Object soFar = a;
            for (int k = 0; k < rows(args.get(1)) * columns(args.get(1)); k++) {
                soFar = call(fun, soFar, item(args.get(1), k));
            }
            return soFar;
        }
        if (!(a instanceof Arr arr)) {
            return single(call(fun, a));
        }
        Arr out = blank(arr.rows, arr.columns);
        for (int k = 0; k < out.items.length; k++) {
            out.items[k] = single(call(fun, arr.items[k]));
        }
        return counted(out);
    }
}
