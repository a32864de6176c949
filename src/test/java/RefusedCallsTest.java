import java.util.function.Consumer;

/** Each call that the document refuses, what it throws, in which order, and that it changes nothing but as said. */
public final class RefusedCallsTest {
    private static final Class<IllegalArgumentException> RANGE = IllegalArgumentException.class;
    private static final Class<UnsupportedOperationException> BROKEN = UnsupportedOperationException.class;
    private static final Class<IllegalStateException> CUT = IllegalStateException.class;
    private static final Class<IndexOutOfBoundsException> FULL = IndexOutOfBoundsException.class;
    private static final int LEAST = Integer.MIN_VALUE;
    private static final int MOST = Integer.MAX_VALUE;

    private static final String SOUND_251 = "=10" + "+1".repeat(124);
    private static final String TEXT_61 = "x".repeat(61);

    /** Constants, formulas, an area from B1 to C2, names, a ring, a place that was told, and a result. */
    private static Scene scene() {
        return new Scene().name("K=A1*2").name("T=SUM($A$1:A2)").set("A1", "5").set("A2", "=A1+K").set("A3", "abc")
                .area("B1", 2, 2, "={1,2;3,4}*A1").set("D1", "'7").set("E1", "=T").set("F1", "=F1").set("G1", "=C2&D1")
                .then(b -> b.put("H11", "=1+(2")).then(b -> b.grid.show(1, 0, true));
    }

    private static Consumer<Bench> set(int r, int c) {
        return b -> b.grid.set(r, c);
    }

    private static Consumer<Bench> area(int r, int c, int h, int w) {
        return b -> b.grid.area(r, c, h, w);
    }

    private static Consumer<Bench> clear(int r, int c, int h, int w) {
        return b -> b.grid.clear(r, c, h, w);
    }

    private static Consumer<Bench> copy(int r, int c, int h, int w, int tr, int tc) {
        return b -> b.grid.copy(r, c, h, w, tr, tc);
    }

    private static Consumer<Bench> insert(boolean columns, int k, int n) {
        return b -> b.grid.insert(columns, k, n);
    }

    private static Consumer<Bench> remove(boolean columns, int k, int n) {
        return b -> b.grid.remove(columns, k, n);
    }

    private static Consumer<Bench> name() {
        return b -> b.grid.name();
    }

    private static void feedAndEnd() {
        Scene full = scene().then(b -> {
            for (int k = 0; k < 100; k++) {
                b.grid.feed(0x41414141, 0x42424242, 0x43434343, 0x44444444, 0x45454545);
            }
        });
        for (int kept : new int[] {2000, 1999, 1981}) {
            Bench b = full.play("2 feed");
            b.grid.end(kept);
            b.dueThrown("beyond 2000", () -> b.grid.feed(1, 2, 3, 4, 5), FULL);
            b.due("length", () -> b.grid.count(0), kept);
            b.due("it stays what it was", () -> b.grid.end(20), 20);
            b.due("set", () -> b.grid.set(3, 0), 12);
            b.dueContent("A4", "AAAABBBBCCCCDDDDEEEE");
        }
        Bench b = full.play("2 feed");
        b.grid.end(1980);
        b.due("just 2000", () -> b.grid.feed(1, 2, 3, 4, 5), 2000);
        Scene scene = scene();
        scene.refuses("2 feed beyond 2000, all else", x -> {
            for (int k = 0; k < 99; k++) {
                x.grid.feed(0x20202020, 0x20202020, 0x20202020, 0x20202020, 0x20202020);
            }
            String got = Bench.outcome(() -> x.grid.feed(1, 2, 3, 4, 5));
            x.due("feed", got, "IndexOutOfBoundsException");
            x.grid.end(3);
            x.grid.end(-1);
        }, RANGE);
        for (int n : new int[] {-1, 4, 2000, LEAST, MOST}) {
            scene.refuses("3 end(" + n + ") of 3", x -> x.grid.end(n), RANGE);
        }
    }

    private static void outOfRange() {
        Scene s = scene();
        int[][] cells = {{-1, 0}, {80, 0}, {0, -1}, {0, 26}, {LEAST, 0}, {0, LEAST}, {MOST, 0}, {0, MOST}, {-1, -1}, {80, 26}};
        for (int[] x : cells) {
            String at = "(" + x[0] + ", " + x[1] + ")";
            s.refusesTape("4 set" + at, "7", set(x[0], x[1]), RANGE, 0);
            s.refusesTape("5 area" + at, "=7", area(x[0], x[1], 1, 1), RANGE, 0);
            s.refuses("6 clear" + at, clear(x[0], x[1], 1, 1), RANGE);
            s.refuses("7 copy" + at, copy(x[0], x[1], 1, 1, 0, 0), RANGE);
            s.refuses("7 copy to " + at, copy(0, 0, 1, 1, x[0], x[1]), RANGE);
            s.refuses("11 kind" + at, b -> b.grid.kind(x[0], x[1]), RANGE);
            s.refuses("12 value" + at, b -> b.grid.value(x[0], x[1]), RANGE);
            s.refuses("13 show" + at, b -> b.grid.show(x[0], x[1], true), RANGE);
            s.refuses("13 show" + at, b -> b.grid.show(x[0], x[1], false), RANGE);
        }
        int[][] sizes = {{0, 0, 0, 1}, {0, 0, 1, 0}, {0, 0, -1, 1}, {0, 0, 1, -1}, {0, 0, 81, 1}, {0, 0, 1, 27}, {79, 0, 2, 1},
            {0, 25, 1, 2}, {1, 0, 80, 1}, {0, 1, 1, 26}, {1, 0, MOST, 1}, {0, 1, 1, MOST}, {0, 0, LEAST, 1}, {0, 0, 1, LEAST}};
        for (int[] x : sizes) {
            String at = "(" + x[0] + ", " + x[1] + ", " + x[2] + ", " + x[3] + ")";
            s.refusesTape("5 area" + at, "=7", area(x[0], x[1], x[2], x[3]), RANGE, 0);
            s.refuses("6 clear" + at, clear(x[0], x[1], x[2], x[3]), RANGE);
            s.refuses("7 copy" + at, copy(x[0], x[1], x[2], x[3], 0, 0), RANGE);
        }
        for (int[] x : new int[][] {{3, 1, 78, 0}, {1, 3, 0, 24}, {80, 1, 1, 0}, {1, 26, 0, 1}}) {
            s.refuses("7 copy beyond", copy(0, 0, x[0], x[1], x[2], x[3]), RANGE);
        }
        int[][] lines = {{-1, 1}, {0, 0}, {0, -1}, {0, 81}, {79, 2}, {80, 1}, {80, 0}, {40, 41}, {1, MOST}, {LEAST, 1}, {0, LEAST}};
        for (int[] x : lines) {
            s.refuses("8 insert rows", insert(false, x[0], x[1]), RANGE);
            s.refuses("9 remove rows", remove(false, x[0], x[1]), RANGE);
        }
        for (int[] x : new int[][] {{-1, 1}, {0, 0}, {0, -1}, {0, 27}, {25, 2}, {26, 1}, {13, 14}, {1, MOST}, {LEAST, 1}}) {
            s.refuses("8 insert columns", insert(true, x[0], x[1]), RANGE);
            s.refuses("9 remove columns", remove(true, x[0], x[1]), RANGE);
        }
        for (int what : new int[] {-1, 5, LEAST, MOST}) {
            s.refuses("15 count(" + what + ")", b -> b.grid.count(what), RANGE);
        }
        for (int i : new int[] {-1, 5, 6, 8, LEAST, MOST}) {
            s.refuses("14 word(" + i + ") of 5", b -> b.grid.word(i), FULL);
        }
    }

    private static void brokenSyntax() {
        Scene s = scene();
        s.refusesTape("4 set", "=1+", set(0, 0), BROKEN, 3);
        s.refusesTape("4 set", "ab\u001fc", set(0, 0), BROKEN, 2);
        s.refusesTape("4 set", "'\u007f", set(3, 3), BROKEN, 1);
        s.refusesTape("4 set", "12\u0000", set(0, 0), BROKEN, 2);
        s.refusesTape("5 area", "7", area(0, 0, 1, 1), BROKEN, 0);
        s.refusesTape("5 area", "", area(3, 0, 2, 2), BROKEN, 0);
        s.refusesTape("5 area", "=(", area(3, 0, 2, 2), BROKEN, 2);
        s.refusesTape("10 name", "K=", name(), BROKEN, 2);
        s.refusesTape("10 name", "K", name(), BROKEN, 1);
        s.refusesTape("10 name", "", name(), BROKEN, 0);
        s.refusesTape("10 name", " K=1", name(), BROKEN, 0);
        s.refusesTape("10 name", "SUM=1", name(), BROKEN, 0);
        s.refusesTape("10 name", "A1=1", name(), BROKEN, 0);
        s.refusesTape("10 name", "NEW=1)", name(), BROKEN, 5);
    }

    private static void partsOfAreas() {
        Scene s = scene();
        for (int[] x : new int[][] {{0, 1}, {0, 2}, {1, 1}, {1, 2}}) {
            s.refusesTape("4 set of a part", "7", set(x[0], x[1]), CUT, -1);
            s.refusesTape("4 set of a part to nothing", "", set(x[0], x[1]), CUT, -1);
            s.refusesTape("4 set of a part to a formula", "=7", set(x[0], x[1]), CUT, -1);
            s.refusesTape("5 area over a part", "=7", area(x[0], x[1], 1, 1), CUT, -1);
            s.refuses("6 clear of a part", clear(x[0], x[1], 1, 1), CUT);
            s.refuses("7 copy of a part", copy(x[0], x[1], 1, 1, 5, 5), CUT);
            s.refuses("7 copy to a part", copy(5, 5, 1, 1, x[0], x[1]), CUT);
        }
        for (int[] x : new int[][] {{0, 0, 1, 26}, {1, 0, 79, 26}, {0, 0, 80, 2}, {0, 2, 80, 24}, {0, 1, 1, 2}, {0, 1, 2, 1}, {1, 0, 1, 4}}) {
            s.refusesTape("5 area over a part", "=7", area(x[0], x[1], x[2], x[3]), CUT, -1);
            s.refuses("6 clear of a part", clear(x[0], x[1], x[2], x[3]), CUT);
            s.refuses("7 copy of a part", copy(x[0], x[1], x[2], x[3], x[0], x[1]), CUT);
        }
        s.refuses("7 copy of an area onto a part of itself", copy(0, 1, 2, 2, 1, 1), CUT);
        s.refuses("7 copy of an area onto a part of itself", copy(0, 1, 2, 2, 0, 2), CUT);
        s.refuses("8 insert in the midst", insert(false, 1, 1), CUT);
        s.refuses("8 insert in the midst", insert(true, 2, 1), CUT);
        s.refuses("9 remove the first row", remove(false, 0, 1), CUT);
        s.refuses("9 remove the last row", remove(false, 1, 1), CUT);
        s.refuses("9 remove the last row and more", remove(false, 1, 79), CUT);
        s.refuses("9 remove the first column", remove(true, 0, 2), CUT);
        s.refuses("9 remove the last column", remove(true, 2, 24), CUT);
    }

    private static void noRoom() {
        Scene s = scene();
        s.refusesTape("4 set of 251 bytes", SOUND_251, set(0, 0), FULL, -1);
        s.refusesTape("4 set of 61 bytes", TEXT_61, set(0, 0), FULL, -1);
        s.refusesTape("4 set of 61 bytes", "'" + TEXT_61, set(3, 0), FULL, -1);
        String[] longest = {"=" + "-".repeat(1998) + "1", "=\"" + "x".repeat(1997) + "\"", "=1" + "+1".repeat(999), "=CHOOSE(1" + ",1".repeat(8) + ")" + "+{1,1}".repeat(329)};
        for (String formula : longest) {
            s.refusesTape("4 set as long as may be", formula, set(3, 0), FULL, -1);
            s.refusesTape("5 area as long as may be", formula, area(3, 0, 2, 2), FULL, -1);
        }
        s.refusesTape("5 area of 251 bytes", SOUND_251, area(0, 1, 2, 2), FULL, -1);
        s.refusesTape("10 name of 251 bytes", "K" + SOUND_251, name(), FULL, -1);
        s.refusesTape("10 a new name of 251 bytes", "NEW" + SOUND_251, name(), FULL, -1);
        Scene names = scene().set("A5", "=N20_+NEW");
        for (int k = 3; k <= 20; k++) {
            names.name("N" + k + "_=" + k);
        }
        names.refusesTape("10 name, the 21st", "NEW=1", name(), FULL, -1);
        Bench b = names.play("10 name, one of 20 anew");
        b.due("name", b.name("N20_=7"), "20");
        Bench again = scene().play("10 name, 250 bytes");
        again.due("name", again.name("NEW" + sound("1", 250)), "3");
    }

    /** A formula of so many bytes that begins so. */
    private static String sound(String first, int bytes) {
        String s = "=" + first + ((bytes - first.length()) % 2 == 0 ? "+10" : "");
        return s + "+1".repeat((bytes - s.length()) / 2);
    }

    private static void noRoomForMoved() {
        Scene just = scene().set("H9", sound("A9", 249)).set("G9", sound("$A9", 250));
        just.refuses("7 copy that makes 251 bytes of 250", copy(8, 6, 1, 1, 9, 6), FULL);
        just.refuses("7 copy of it with others", copy(2, 0, 7, 8, 3, 0), FULL);
        just.refuses("8 insert that makes 251 bytes of 250", insert(false, 8, 1), FULL);
        Bench b = just.play("7 copy");
        b.due("to 250 bytes", () -> b.grid.copy(8, 7, 1, 1, 9, 7), 14);
        b.dueContent("H10", sound("A10", 250));
        b.due("of 250 bytes that stay so", () -> b.grid.copy(8, 6, 1, 1, 8, 7), 14);

        Scene lost = scene().set("H10", sound("H9", 248)).set("G10", sound("G8", 247));
        lost.refuses("7 copy beyond the sheet that makes 251 bytes of 248", copy(9, 7, 1, 1, 0, 7), FULL);
        lost.refuses("9 remove that makes 251 bytes of 248", remove(false, 8, 1), FULL);
        lost.refuses("9 remove of both", remove(false, 7, 2), FULL);
        Bench r = lost.play("9 remove");
        r.due("to 250 bytes", () -> r.grid.remove(false, 7, 1), 13);
        r.dueContent("G9", sound("#REF!", 250));
        r.due("what is taken out needs no room", () -> r.grid.remove(false, 7, 2), 11);

        Scene names = scene().name("NEW" + sound("A9", 250)).name("OLD" + sound("A9", 249)).set("A5", "=NEW");
        names.refuses("8 insert that makes 251 bytes of a name", insert(false, 8, 1), FULL);
        names.refuses("9 remove that makes 253 bytes of a name", remove(false, 8, 1), FULL);
        Bench n = scene().name("OLD" + sound("A9", 249)).set("A5", "=OLD-A9").play("8 insert");
        n.due("to 250 bytes of a name", () -> n.grid.insert(false, 8, 1), 12);
        n.with("A10", "3");
        n.dueValue("A5", "N:123");

        Scene first = new Scene().name("NEW" + sound("A1", 248)).set("C5", "=NEW");
        first.refuses("9 remove of the first row that makes 251 bytes of a name", remove(false, 0, 1), FULL);
        first.refuses("9 remove of the first column that makes 251 bytes of a name", remove(true, 0, 1), FULL);
        first.refuses("9 remove of all rows", remove(false, 0, 80), FULL);

        Scene last = scene().set("A80", "1").set("Z3", "'");
        last.refuses("8 insert where the last row has content", insert(false, 0, 1), FULL);
        last.refuses("8 insert at the last row that has content", insert(false, 79, 1), FULL);
        last.refuses("8 insert where the last column has content", insert(true, 0, 1), FULL);
        last.refuses("8 insert at the last column that has content", insert(true, 25, 1), FULL);
        Scene behind = scene().area("A79", 2, 1, "=7");
        behind.refuses("8 insert where an area would go", insert(false, 40, 1), FULL);
        behind.refuses("8 insert where a part of an area would go", insert(false, 78, 1), FULL);
        behind.refuses("8 insert within an area at the end", insert(false, 79, 1), CUT);
        Bench f = scene().set("Z79", "1").play("8 insert");
        f.due("as far as there is room", () -> f.grid.insert(false, 40, 1), 12);
        f.dueThrown("and no further", () -> f.grid.insert(false, 40, 1), FULL);
    }

    private static void order() {
        Scene s = scene().set("H9", sound("A9", 250)).set("A80", "1");
        s.refusesTape("range before syntax", "=1+", set(80, 0), RANGE, 0);
        s.refusesTape("range before syntax", "7", area(0, 0, 0, 1), RANGE, 0);
        s.refusesTape("range before an area's part", "=7", area(0, 1, 1, 26), RANGE, 0);
        s.refusesTape("range before room", TEXT_61, set(0, 26), RANGE, 0);
        s.refusesTape("syntax before an area's part", "=1+", set(0, 1), BROKEN, 3);
        s.refusesTape("syntax before an area's part", "7", area(0, 1, 1, 1), BROKEN, 0);
        s.refusesTape("syntax before room", TEXT_61 + "\u0001", set(0, 0), BROKEN, 61);
        s.refusesTape("syntax before room", "=" + "1+".repeat(200), set(0, 0), BROKEN, 401);
        s.refusesTape("syntax before room", SOUND_251 + ")", area(0, 0, 1, 1), BROKEN, 251);
        s.refusesTape("syntax before room", "NEW" + SOUND_251 + ",", name(), BROKEN, 254);
        s.refusesTape("a function before room", "SUM" + SOUND_251, name(), BROKEN, 0);
        s.refusesTape("an area's part before room", TEXT_61, set(0, 1), CUT, -1);
        s.refusesTape("an area's part before room", SOUND_251, set(1, 2), CUT, -1);
        s.refusesTape("an area's part before room", SOUND_251, area(1, 2, 1, 1), CUT, -1);
        s.refuses("range before an area's part", clear(0, 1, 1, 26), RANGE);
        s.refuses("range before an area's part", copy(0, 1, 1, 1, 80, 0), RANGE);
        s.refuses("range before an area's part", insert(false, 1, 80), RANGE);
        s.refuses("range before an area's part", remove(false, 1, 80), RANGE);
        s.refuses("an area's part before room", copy(1, 0, 8, 8, 2, 0), CUT);
        s.refuses("an area's part that is copied to, before room", copy(8, 7, 1, 1, 1, 1), CUT);
        s.refuses("an area that is cut before content that would go", insert(false, 1, 1), CUT);
        s.refuses("an area's part before room", remove(true, 0, 2), CUT);
        Scene names = scene();
        for (int k = 3; k <= 20; k++) {
            names.name("N" + k + "_=" + k);
        }
        names.refusesTape("syntax before the 21st name", "NEW=1)", name(), BROKEN, 5);
        names.refusesTape("a function before the 21st name", "ABS=1", name(), BROKEN, 0);
    }

    public static void main(String[] args) {
        feedAndEnd();
        outOfRange();
        brokenSyntax();
        partsOfAreas();
        noRoom();
        noRoomForMoved();
        order();
        Bench.end("RefusedCallsTest");
    }
}
