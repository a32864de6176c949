import java.nio.charset.StandardCharsets;
import java.util.Random;

/** Runs of chance, held against the Oracle call by call. Arguments: first seed, number of runs. */
public final class OracleTest {
    private static int wrong;

    private interface Call {
        long answer();
    }

    private static String outcome(Call c) {
        try {
            return String.valueOf(c.answer());
        } catch (IllegalArgumentException | IllegalStateException | UnsupportedOperationException
                | IndexOutOfBoundsException e) {
            if (e.getClass() == ArrayIndexOutOfBoundsException.class
                    || e.getClass() == StringIndexOutOfBoundsException.class) {
                throw e;
            }
            return e.getClass().getSimpleName();
        }
    }

    private final long seed;
    private final Random chance;
    private final FormulaMaker maker;
    private final GridReckoner grid = new GridReckoner();
    private final Oracle oracle = new Oracle();
    private final StringBuilder log = new StringBuilder();
    private boolean failed;

    private OracleTest(long seed) {
        this.seed = seed;
        chance = new Random(seed);
        maker = new FormulaMaker(chance);
    }

    private void same(String call, Call a, Call b) {
        if (failed) {
            return;
        }
        String due = outcome(b);
        String got;
        try {
            got = outcome(a);
        } catch (RuntimeException e) {
            got = e.toString() + " at " + e.getStackTrace()[0] + " " + e.getStackTrace()[1] + " " + e.getStackTrace()[2];
        }
        if (!got.equals(due)) {
            failed = true;
            wrong++;
            System.out.println("seed " + seed + "\n" + log + "  " + call + " answered " + got + ", due is " + due);
        }
    }

    private void tape(String s) {
        byte[] bytes = s.getBytes(StandardCharsets.ISO_8859_1);
        int kept = Math.min(1980, bytes.length);
        for (int k = 0; k < kept; k += 20) {
            int[] five = new int[5];
            for (int i = 0; i < 20; i++) {
                int b = k + i < bytes.length ? bytes[k + i] & 255 : 0;
                five[i / 4] = five[i / 4] << 8 | b;
            }
            same("feed", () -> grid.feed(five[0], five[1], five[2], five[3], five[4]),
                    () -> oracle.feed(five[0], five[1], five[2], five[3], five[4]));
        }
        same("end", () -> grid.end(kept), () -> oracle.end(kept));
    }

    private void edit(String call, String on, Call a, Call b) {
        same(call + " of " + on, a, b);
        log.append("  ").append(call).append(on.isEmpty() ? "" : " of ").append(on).append(" -> ")
                .append(oracle.count(2)).append('\n');
    }

    private void setSome() {
        int r = chance.nextInt(9);
        int c = chance.nextInt(6);
        String s = chance.nextInt(3) == 0 ? maker.constant() : chance.nextInt(12) == 0 ? maker.stretched() : maker.formula();
        tape(s);
        edit("set(" + r + ", " + c + ")", s, () -> grid.set(r, c), () -> oracle.set(r, c));
    }

    private void areaSome() {
        int r = chance.nextInt(9);
        int c = chance.nextInt(6);
        int h = 1 + chance.nextInt(3);
        int w = 1 + chance.nextInt(3);
        String s = maker.formula();
        tape(s);
        edit("area(" + r + ", " + c + ", " + h + ", " + w + ")", s, () -> grid.area(r, c, h, w),
                () -> oracle.area(r, c, h, w));
    }

    private void copySome() {
        int r = chance.nextInt(8);
        int c = chance.nextInt(5);
        int h = 1 + chance.nextInt(5);
        int w = 1 + chance.nextInt(4);
        int tr = chance.nextInt(15) == 0 ? 80 - h : chance.nextInt(8);
        int tc = chance.nextInt(15) == 0 ? 26 - w : chance.nextInt(5);
        edit("copy(" + r + ", " + c + ", " + h + ", " + w + ", " + tr + ", " + tc + ")", "",
                () -> grid.copy(r, c, h, w, tr, tc), () -> oracle.copy(r, c, h, w, tr, tc));
    }

    private void clearSome() {
        int r = chance.nextInt(9);
        int c = chance.nextInt(6);
        int h = chance.nextInt(5);
        int w = chance.nextInt(4);
        edit("clear(" + r + ", " + c + ", " + h + ", " + w + ")", "", () -> grid.clear(r, c, h, w),
                () -> oracle.clear(r, c, h, w));
    }

    private void linesSome() {
        boolean columns = chance.nextBoolean();
        boolean in = chance.nextBoolean();
        int k = chance.nextInt(10) == 0 ? (columns ? 25 : 79) - chance.nextInt(3) : chance.nextInt(8);
        int n = chance.nextInt(12) == 0 ? chance.nextInt(80) : 1 + chance.nextInt(3);
        edit((in ? "insert(" : "remove(") + columns + ", " + k + ", " + n + ")", "",
                () -> in ? grid.insert(columns, k, n) : grid.remove(columns, k, n),
                () -> in ? oracle.insert(columns, k, n) : oracle.remove(columns, k, n));
    }

    private void nameSome() {
        String s = maker.word() + (chance.nextInt(4) == 0 ? " " : "") + maker.formula();
        s = chance.nextInt(30) == 0 ? maker.broken(s) : s;
        tape(s);
        edit("name()", s, grid::name, oracle::name);
    }

    private void look(int r, int c) {
        String at = "(" + r + ", " + c + ")";
        same("kind" + at, () -> grid.kind(r, c), () -> oracle.kind(r, c));
        same("value" + at, () -> grid.value(r, c), () -> oracle.value(r, c));
        for (int k = 0; k < 2; k++) {
            boolean content = k == 1;
            same("show" + at + content, () -> grid.show(r, c, content), () -> oracle.show(r, c, content));
            int length = oracle.count(1);
            for (int i = 0; i <= length; i += 8) {
                int from = i;
                same("word(" + from + ") behind show" + at + content, () -> grid.word(from), () -> oracle.word(from));
            }
        }
    }

    private void lookAround() {
        for (int what = 0; what < 5; what++) {
            int k = what;
            same("count(" + k + ")", () -> grid.count(k), () -> oracle.count(k));
        }
        for (int r = 0; r < 15 && !failed; r++) {
            for (int c = 0; c < 10; c++) {
                look(r, c);
            }
        }
        look(79, 25);
        look(79 - chance.nextInt(60), chance.nextInt(26));
    }

    private void run(int edits) {
        for (int k = 0; k < edits && !failed; k++) {
            int which = chance.nextInt(100);
            if (which < 60) {
                setSome();
            } else if (which < 68) {
                areaSome();
            } else if (which < 80) {
                copySome();
            } else if (which < 83) {
                clearSome();
            } else if (which < 90) {
                linesSome();
            } else {
                nameSome();
            }
            lookAround();
        }
    }

    public static void main(String[] args) {
        long first = args.length > 0 ? Long.parseLong(args[0]) : 1;
        long runs = args.length > 1 ? Long.parseLong(args[1]) : 150;
        for (long seed = first; seed < first + runs && wrong < 3; seed++) {
            new OracleTest(seed).run(40);
        }
        System.out.println(wrong == 0 ? "OracleTest: all answers are as due" : "OracleTest: " + wrong + " runs went wrong");
        System.exit(wrong == 0 ? 0 : 1);
    }
}
