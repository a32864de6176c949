import java.lang.management.ManagementFactory;

/** A dear run makes little: all its calls live in one room of some 7 million fields and elements. */
public final class RoomTest {
    private static final long BYTES_MOST = 7_300_000;

    private static long made() {
        return ((com.sun.management.ThreadMXBean) ManagementFactory.getThreadMXBean())
                .getThreadAllocatedBytes(Thread.currentThread().getId());
    }

    /** All bytes of the tape, made before what is counted. */
    private static int[][] words(String s) {
        byte[] bytes = s.getBytes(java.nio.charset.StandardCharsets.ISO_8859_1);
        int[][] all = new int[(bytes.length + 19) / 20][];
        for (int k = 0; k < all.length; k++) {
            all[k] = Bench.ints(bytes, 20 * k);
        }
        return all;
    }

    private static void tape(GridReckoner g, int[][] words, int length) {
        for (int[] w : words) {
            g.feed(w[0], w[1], w[2], w[3], w[4]);
        }
        g.end(length);
    }

    private static long dear(String formula, String name, boolean copies) {
        int[][] words = words(formula);
        int[][] nameWords = words(name);
        long before = made();
        GridReckoner g = new GridReckoner();
        tape(g, nameWords, name.length());
        g.name();
        tape(g, words, formula.length());
        g.set(0, 13);
        g.copy(0, 13, 1, 1, 0, 14);
        g.copy(0, 13, 1, 2, 0, 15);
        g.copy(0, 13, 1, 4, 0, 17);
        g.copy(0, 13, 1, 8, 0, 18);
        g.copy(0, 13, 1, 13, 1, 13);
        for (int k = 2; k < 40; k *= 2) {
            g.copy(0, 13, k, 13, k, 13);
        }
        for (int k = 0; k < 40; k++) {
            if (copies) {
                g.copy(0, 13, 20, 13, 20 + k % 5, 13);
                g.insert(false, 0, 1);
                g.remove(false, 0, 1);
            } else {
                g.clear(0, 0, 1, 1);
            }
            g.show(0, 13, true);
            g.word(0);
        }
        return made() - before;
    }

    public static void main(String[] args) {
        made();
        Bench b = new Bench("room");
        long[] runs = {
            dear("=SUM($A$1:$M$80)" + "+1".repeat(116), "K=1", true),
            dear("=ROWS(SEQUENCE(2000,1,0,0)&\"" + "x".repeat(49) + "\")", "K=1", false),
            dear("=K", "K=SUM(MAP(SEQUENCE(400,1,1,1),LAMBDA(X,LET(A_,X,B_,X,C_,X,A_+B_+C_))))", false),
            dear("=IFERROR(MAP(SEQUENCE(401,1,1,1),LAMBDA(X,X)),1)", "K=1", false),
        };
        for (long bytes : runs) {
            b.due("a dear run made " + bytes + " bytes, more than " + BYTES_MOST, String.valueOf(bytes > BYTES_MOST), "false");
            System.out.println("  a dear run made " + bytes + " bytes");
        }
        Bench.end("RoomTest");
    }
}
