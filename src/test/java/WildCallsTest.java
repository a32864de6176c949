import java.nio.charset.StandardCharsets;
import java.util.Random;
import java.util.Set;

/**
 * Calls with whatever arguments, in whatever state, also long after the last call of which something is promised:
 * each one answers or throws just what its face says. Arguments: first seed, number of runs.
 */
public final class WildCallsTest {
    private static final int CALLS = 3000;
    private static final int[] FAR = {Integer.MIN_VALUE, Integer.MIN_VALUE + 1, -1000, -81, -1, 26, 27, 79, 80, 81, 2000,
        2001, 1 << 16, 1 << 30, Integer.MAX_VALUE - 1, Integer.MAX_VALUE};
    private static final Set<String> ARGUMENT = Set.of("IllegalArgumentException");
    private static final Set<String> ROOM = Set.of("IndexOutOfBoundsException");
    private static final Set<String> WRITTEN = Set.of("IllegalArgumentException", "UnsupportedOperationException",
            "IllegalStateException", "IndexOutOfBoundsException");
    private static final Set<String> CLEARED = Set.of("IllegalArgumentException", "IllegalStateException");
    private static final Set<String> MOVED = Set.of("IllegalArgumentException", "IllegalStateException",
            "IndexOutOfBoundsException");
    private static final Set<String> NAMED = Set.of("UnsupportedOperationException", "IndexOutOfBoundsException");

    private static int wrong;

    private interface Call {
        long answer();
    }

    private final long seed;
    private final Random chance;
    private final FormulaMaker maker;
    private final GridReckoner grid = new GridReckoner();

    private WildCallsTest(long seed) {
        this.seed = seed;
        chance = new Random(seed);
        maker = new FormulaMaker(chance);
    }

    public static void main(String[] args) {
        long first = args.length > 0 ? Long.parseLong(args[0]) : 1;
        long runs = args.length > 1 ? Long.parseLong(args[1]) : 40;
        for (long seed = first; seed < first + runs; seed++) {
            new WildCallsTest(seed).run();
        }
        if (wrong > 0) {
            System.exit(1);
        }
        System.out.println("WildCallsTest: all calls answer or throw what they may");
    }

    private void may(String call, Set<String> thrown, Call c) {
        try {
            c.answer();
        } catch (RuntimeException | StackOverflowError e) {
            if (!thrown.contains(e.getClass().getSimpleName())) {
                wrong++;
                System.out.println("seed " + seed + ": " + call + " threw " + e + " at " + e.getStackTrace()[0]);
            }
        }
    }

    private int number(int most) {
        return chance.nextInt(12) == 0 ? FAR[chance.nextInt(FAR.length)] : chance.nextInt(most);
    }

    private void tape() {
        String s;
        switch (chance.nextInt(8)) {
            case 0:
                s = maker.constant();
                break;
            case 1:
                s = maker.stretched();
                break;
            case 2:
                s = maker.word() + maker.formula();
                break;
            case 3:
                s = "=" + maker.broken(maker.formula());
                break;
            default:
                s = maker.formula();
                break;
        }
        byte[] bytes = s.getBytes(StandardCharsets.ISO_8859_1);
        if (chance.nextInt(20) == 0) {
            chance.nextBytes(bytes);
        }
        for (int k = 0; k < bytes.length; k += 20) {
            int[] five = Bench.ints(bytes, k);
            may("feed", ROOM, () -> grid.feed(five[0], five[1], five[2], five[3], five[4]));
        }
        int kept = chance.nextInt(30) == 0 ? number(100) : bytes.length;
        may("end(" + kept + ")", ARGUMENT, () -> grid.end(kept));
    }

    private void run() {
        for (int k = 0; k < CALLS; k++) {
            if (chance.nextInt(5) > 0) {
                tape();
            }
            edit();
            look();
        }
    }

    private void edit() {
        boolean wide = chance.nextInt(10) == 0;
        int r = number(wide ? 80 : 12);
        int c = number(wide ? 26 : 8);
        int h = number(wide ? 80 : 4) + 1;
        int w = number(wide ? 26 : 4) + 1;
        int tr = number(wide ? 80 : 12);
        int tc = number(wide ? 26 : 8);
        boolean columns = chance.nextBoolean();
        String all = "(" + r + ", " + c + ", " + h + ", " + w + ", " + tr + ", " + tc + ")";
        switch (chance.nextInt(16)) {
            case 0:
                may("clear" + all, CLEARED, () -> grid.clear(r, c, h, w));
                break;
            case 1:
            case 2:
                may("copy" + all, MOVED, () -> grid.copy(r, c, h, w, tr, tc));
                break;
            case 3:
                may("insert" + all, MOVED, () -> grid.insert(columns, r, h));
                break;
            case 4:
                may("remove" + all, MOVED, () -> grid.remove(columns, r, h));
                break;
            case 5:
            case 6:
                may("name", NAMED, grid::name);
                break;
            case 7:
            case 8:
            case 9:
                may("area" + all, WRITTEN, () -> grid.area(r, c, h, w));
                break;
            default:
                may("set" + all, WRITTEN, () -> grid.set(r, c));
                break;
        }
    }

    private void look() {
        int r = number(80);
        int c = number(26);
        int i = number(260);
        int what = number(6);
        may("kind(" + r + ", " + c + ")", ARGUMENT, () -> grid.kind(r, c));
        may("value(" + r + ", " + c + ")", ARGUMENT, () -> grid.value(r, c));
        may("show(" + r + ", " + c + ")", ARGUMENT, () -> grid.show(r, c, (i & 1) == 0));
        may("word(" + i + ")", ROOM, () -> grid.word(i));
        may("count(" + what + ")", ARGUMENT, () -> grid.count(what));
    }
}
