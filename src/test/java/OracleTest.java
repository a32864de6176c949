import java.nio.charset.StandardCharsets;
import java.util.ArrayList;
import java.util.List;
import java.util.Random;

/** Runs of chance, held against the Oracle call by call. Arguments: first seed, number of runs. */
public final class OracleTest {
    /** What an edit and the looks behind it, or the looks at one cell, may take of an object's calls. */
    private static final int CALLS_AN_EDIT = 160;
    private static final int CALLS_A_CELL = 50;
    private static final int CALLS_AT_THE_END = 60;

    private static int wrong;

    private interface Call {
        long answer();
    }

    private interface Act {
        long on(Grid grid);
    }

    private static String outcome(Call c) {
        try {
            return String.valueOf(c.answer());
        } catch (IllegalArgumentException | IllegalStateException | UnsupportedOperationException
                | IndexOutOfBoundsException e) {
            if (e.getClass() == ArrayIndexOutOfBoundsException.class
                    || e.getClass() == StringIndexOutOfBoundsException.class) {
                throw e;
            }
            return e.getClass().getSimpleName();
        }
    }

    private final long seed;
    private final Random chance;
    private final FormulaMaker maker;
    private Grid grid = new Grid();
    private final Oracle oracle = new Oracle();
    private final List<Act> acts = new ArrayList<>();
    private final StringBuilder log = new StringBuilder();
    private boolean failed;

    private OracleTest(long seed) {
        this.seed = seed;
        chance = new Random(seed);
        maker = new FormulaMaker(chance);
    }

    private void same(String call, Act a, Call b) {
        if (failed) {
            return;
        }
        String due = outcome(b);
        String got;
        try {
            got = outcome(() -> a.on(grid));
        } catch (RuntimeException e) {
            got = e.toString() + " at " + e.getStackTrace()[0] + " " + e.getStackTrace()[1] + " " + e.getStackTrace()[2];
        }
        if (!got.equals(due)) {
            failed = true;
            wrong++;
            System.out.println("seed " + seed + "\n" + log + "  " + call + " answered " + got + ", due is " + due);
        }
    }

    /** One that is made again when the run is played again on a new object. */
    private void act(String call, Act a, Call b) {
        acts.add(a);
        same(call, a, b);
    }

    private void tape(String s) {
        byte[] bytes = s.getBytes(StandardCharsets.ISO_8859_1);
        int kept = Math.min(1980, bytes.length);
        for (int k = 0; k < kept; k += 20) {
            int[] five = Bench.ints(bytes, k);
            act("feed", g -> g.feed(five[0], five[1], five[2], five[3], five[4]),
                    () -> oracle.feed(five[0], five[1], five[2], five[3], five[4]));
        }
        act("end", g -> g.end(kept), () -> oracle.end(kept));
    }

    private void edit(String call, String on, Act a, Call b) {
        act(call + " of " + on, a, b);
        log.append("  ").append(call).append(on.isEmpty() ? "" : " of ").append(on).append(" -> ")
                .append(oracle.count(2)).append('\n');
    }

    private void setSome() {
        int r = chance.nextInt(9);
        int c = chance.nextInt(6);
        String s = chance.nextInt(3) == 0 ? maker.constant() : chance.nextInt(12) == 0 ? maker.stretched() : maker.formula();
        tape(s);
        edit("set(" + r + ", " + c + ")", s, g -> g.set(r, c), () -> oracle.set(r, c));
    }

    private void areaSome() {
        int r = chance.nextInt(9);
        int c = chance.nextInt(6);
        int h = 1 + chance.nextInt(3);
        int w = 1 + chance.nextInt(3);
        String s = maker.formula();
        tape(s);
        edit("area(" + r + ", " + c + ", " + h + ", " + w + ")", s, g -> g.area(r, c, h, w),
                () -> oracle.area(r, c, h, w));
    }

    private void copySome() {
        int r = chance.nextInt(8);
        int c = chance.nextInt(5);
        int h = 1 + chance.nextInt(5);
        int w = 1 + chance.nextInt(4);
        int tr = chance.nextInt(15) == 0 ? 80 - h : chance.nextInt(8);
        int tc = chance.nextInt(15) == 0 ? 26 - w : chance.nextInt(5);
        edit("copy(" + r + ", " + c + ", " + h + ", " + w + ", " + tr + ", " + tc + ")", "",
                g -> g.copy(r, c, h, w, tr, tc), () -> oracle.copy(r, c, h, w, tr, tc));
    }

    private void clearSome() {
        int r = chance.nextInt(9);
        int c = chance.nextInt(6);
        int h = chance.nextInt(5);
        int w = chance.nextInt(4);
        edit("clear(" + r + ", " + c + ", " + h + ", " + w + ")", "", g -> g.clear(r, c, h, w),
                () -> oracle.clear(r, c, h, w));
    }

    private void linesSome() {
        boolean columns = chance.nextBoolean();
        boolean in = chance.nextBoolean();
        int k = chance.nextInt(10) == 0 ? (columns ? 25 : 79) - chance.nextInt(3) : chance.nextInt(8);
        int n = chance.nextInt(12) == 0 ? chance.nextInt(80) : 1 + chance.nextInt(3);
        edit((in ? "insert(" : "remove(") + columns + ", " + k + ", " + n + ")", "",
                g -> in ? g.insert(columns, k, n) : g.remove(columns, k, n),
                () -> in ? oracle.insert(columns, k, n) : oracle.remove(columns, k, n));
    }

    private void nameSome() {
        String s = maker.word() + (chance.nextInt(4) == 0 ? " " : "") + maker.formula();
        s = chance.nextInt(30) == 0 ? maker.broken(s) : s;
        tape(s);
        edit("name()", s, g -> g.name(), oracle::name);
    }

    private void look(int r, int c) {
        String at = "(" + r + ", " + c + ")";
        same("kind" + at, g -> g.kind(r, c), () -> oracle.kind(r, c));
        same("value" + at, g -> g.value(r, c), () -> oracle.value(r, c));
        for (int k = 0; k < 2; k++) {
            boolean content = k == 1;
            same("show" + at + content, g -> g.show(r, c, content), () -> oracle.show(r, c, content));
            int length = oracle.count(1);
            for (int i = 0; i <= length; i += 8) {
                int from = i;
                same("word(" + from + ") behind show" + at + content, g -> g.word(from), () -> oracle.word(from));
            }
        }
    }

    private void lookAround() {
        for (int what = chance.nextInt(5); what < 5; what++) {
            int k = what;
            same("count(" + k + ")", g -> g.count(k), () -> oracle.count(k));
        }
        if (chance.nextInt(3) == 0) {
            look(chance.nextInt(15), chance.nextInt(10));
        }
    }

    private void editSome() {
        int which = chance.nextInt(100);
        if (which < 60) {
            setSome();
        } else if (which < 68) {
            areaSome();
        } else if (which < 80) {
            copySome();
        } else if (which < 83) {
            clearSome();
        } else if (which < 90) {
            linesSome();
        } else {
            nameSome();
        }
    }

    private void playAgain() {
        grid = new Grid();
        for (Act a : acts) {
            outcome(() -> a.on(grid));
        }
    }

    /** More looks than one object answers: the run is played again as often as it takes. */
    private void lookAtAll() {
        List<int[]> cells = new ArrayList<>();
        for (int k = 0; k < 150; k++) {
            cells.add(new int[] {k / 10, k % 10});
        }
        cells.add(new int[] {79, 25});
        cells.add(new int[] {79 - chance.nextInt(60), chance.nextInt(26)});
        for (int[] cell : cells) {
            if (grid.left() < CALLS_A_CELL) {
                playAgain();
            }
            look(cell[0], cell[1]);
        }
    }

    private void run() {
        while (!failed && grid.left() > CALLS_AN_EDIT + CALLS_AT_THE_END) {
            editSome();
            lookAround();
        }
        if (!failed) {
            lookAtAll();
        }
    }

    public static void main(String[] args) {
        long first = args.length > 0 ? Long.parseLong(args[0]) : 1;
        long runs = args.length > 1 ? Long.parseLong(args[1]) : 1500;
        for (long seed = first; seed < first + runs && wrong < 3; seed++) {
            new OracleTest(seed).run();
        }
        System.out.println(wrong == 0 ? "OracleTest: all answers are as due" : "OracleTest: " + wrong + " runs went wrong");
        System.exit(wrong == 0 ? 0 : 1);
    }
}
