import java.nio.ByteBuffer;
import java.nio.charset.StandardCharsets;

/** A GridReckoner with cells by their names and bytes as strings, and a count of what went wrong. */
final class Bench {
    private static int wrong;
    private static int checks;
    private final String title;
    final Grid grid = new Grid();

    interface Call {
        long answer();
    }

    Bench(String title) {
        this.title = title;
    }

    static int row(String cell) {
        return Integer.parseInt(cell.substring(1)) - 1;
    }

    static int column(String cell) {
        return cell.charAt(0) - 'A';
    }

    static String cell(int r, int c) {
        return (char) ('A' + c) + String.valueOf(r + 1);
    }

    /** The answer, or the name of what is thrown. */
    static String outcome(Call c) {
        try {
            return String.valueOf(c.answer());
        } catch (RuntimeException e) {
            return e.getClass().getSimpleName();
        }
    }

    void due(String what, String got, String want) {
        checks++;
        if (!got.equals(want)) {
            wrong++;
            System.out.println(title + ": " + what + " gave " + got + ", due is " + want);
        }
    }

    void due(String what, Call c, long want) {
        due(what, outcome(c), String.valueOf(want));
    }

    void dueThrown(String what, Call c, Class<? extends RuntimeException> want) {
        due(what, outcome(c), want.getSimpleName());
    }

    static int[] ints(byte[] bytes, int from) {
        byte[] twenty = new byte[20];
        System.arraycopy(bytes, from, twenty, 0, Math.min(20, bytes.length - from));
        int[] five = new int[5];
        ByteBuffer.wrap(twenty).asIntBuffer().get(five);
        return five;
    }

    Bench tape(String s) {
        grid.end(0);
        byte[] bytes = s.getBytes(StandardCharsets.ISO_8859_1);
        for (int k = 0; k < bytes.length; k += 20) {
            int[] five = ints(bytes, k);
            grid.feed(five[0], five[1], five[2], five[3], five[4]);
        }
        grid.end(bytes.length);
        return this;
    }

    String put(String cell, String s) {
        tape(s);
        return outcome(() -> grid.set(row(cell), column(cell)));
    }

    String area(String from, int h, int w, String s) {
        tape(s);
        return outcome(() -> grid.area(row(from), column(from), h, w));
    }

    String name(String s) {
        tape(s);
        return outcome(grid::name);
    }

    /** All of these are due to go well: cell, content, cell, content .. */
    Bench with(String... cellsAndContents) {
        for (int k = 0; k < cellsAndContents.length; k += 2) {
            String got = put(cellsAndContents[k], cellsAndContents[k + 1]);
            if (!got.matches("[0-9]+")) {
                due("set " + cellsAndContents[k] + " to " + cellsAndContents[k + 1], got, "a number");
            }
        }
        return this;
    }

    /** The first bytes of the result. */
    String result(int length) {
        StringBuilder b = new StringBuilder();
        for (int i = 0; i < length; i += 8) {
            byte[] eight = ByteBuffer.allocate(8).putLong(grid.word(i)).array();
            b.append(new String(eight, 0, Math.min(8, length - i), StandardCharsets.ISO_8859_1));
        }
        return b.toString();
    }

    /** The value as it is shown, with its kind before it. */
    String value(String cell) {
        int r = row(cell);
        int c = column(cell);
        return "0NTBE".charAt(grid.kind(r, c)) + ":" + result(grid.show(r, c, false));
    }

    String content(String cell) {
        return result(grid.show(row(cell), column(cell), true));
    }

    void dueValue(String cell, String want) {
        String got = value(cell);
        due("value of " + cell + (got.equals(want) ? "" : " (" + content(cell) + ")"), got, want);
    }

    void dueContent(String cell, String want) {
        due("content of " + cell, content(cell), want);
    }

    static void end(String test) {
        System.out.println(test + ": " + (wrong == 0 ? "all " + checks + " are as due" : wrong + " of " + checks + " are not as due"));
        System.exit(wrong == 0 ? 0 : 1);
    }
}
