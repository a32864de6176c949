import java.util.ArrayList;
import java.util.List;
import java.util.function.Consumer;

/**
 * A sheet told by steps, so that it can be made again and again: looking at all of it takes more calls than one
 * object promises to answer.
 */
final class Scene {
    /** Rows and columns that scenes use, with the corners and the edges of the sheet. */
    private static final int[] ROWS = {0, 1, 2, 3, 4, 5, 6, 7, 8, 9, 10, 11, 40, 77, 78, 79};
    private static final int[] COLUMNS = {0, 1, 2, 3, 4, 5, 6, 7, 24, 25};
    private static final int CELLS_A_LOOK = 20;

    private final List<Consumer<Bench>> steps = new ArrayList<>();

    Scene then(Consumer<Bench> step) {
        steps.add(step);
        return this;
    }

    Scene set(String cell, String content) {
        return then(b -> b.with(cell, content));
    }

    Scene area(String cell, int h, int w, String formula) {
        return then(b -> sound(b, formula, b.area(cell, h, w, formula)));
    }

    Scene name(String nameAndFormula) {
        return then(b -> sound(b, nameAndFormula, b.name(nameAndFormula)));
    }

    private static void sound(Bench b, String what, String got) {
        if (!got.matches("[0-9]+")) {
            b.due(what, got, "a number");
        }
    }

    Bench play(String title) {
        Bench b = new Bench(title);
        for (Consumer<Bench> step : steps) {
            step.accept(b);
        }
        return b;
    }

    /** A call that reads the tape and is refused: only the tape and the place may be others then. */
    void refusesTape(String what, String tape, Consumer<Bench> call, Class<? extends RuntimeException> want, int place) {
        Consumer<Bench> before = b -> b.tape(tape);
        boolean outOfRange = want == IllegalArgumentException.class;
        Bench b = play(what);
        before.accept(b);
        int oldPlace = b.grid.count(3);
        b.dueThrown(tape, () -> answer(call, b), want);
        b.due("bytes of the tape", () -> b.grid.count(0), outOfRange ? tape.length() : 0);
        b.due("place", () -> b.grid.count(3), outOfRange ? oldPlace : place);
        changesNothing(what, before, call);
    }

    /** A call that does not read the tape and is refused: the tape and the place stay, too. */
    void refuses(String what, Consumer<Bench> call, Class<? extends RuntimeException> want) {
        Consumer<Bench> before = b -> {
            b.put("H12", "=1+");
            b.tape("=77");
        };
        Bench b = play(what);
        before.accept(b);
        b.dueThrown(what, () -> answer(call, b), want);
        b.due("bytes of the tape", () -> b.grid.count(0), 3);
        b.due("place", () -> b.grid.count(3), 3);
        changesNothing(what, before, call);
    }

    private static long answer(Consumer<Bench> call, Bench b) {
        call.accept(b);
        return 0;
    }

    /** Looks at all of it at once, and again when all formulas have been worked out anew from what they are then. */
    private void changesNothing(String what, Consumer<Bench> before, Consumer<Bench> call) {
        Consumer<Bench> nothing = b -> { };
        Consumer<Bench> refused = b -> Bench.outcome(() -> answer(call, b));
        Consumer<Bench> anew = b -> b.grid.remove(false, 40, 1);
        for (int from = 0; from < ROWS.length * COLUMNS.length; from += CELLS_A_LOOK) {
            Bench b = new Bench(what);
            b.due("all behind what was refused", look(from, before, refused, nothing), look(from, before, nothing, nothing));
            b.due("all behind what was refused, worked out anew", look(from, before, refused, anew),
                    look(from, before, nothing, anew));
        }
    }

    private String look(int from, Consumer<Bench> before, Consumer<Bench> call, Consumer<Bench> later) {
        Bench b = play("look");
        before.accept(b);
        call.accept(b);
        later.accept(b);
        StringBuilder all = new StringBuilder();
        all.append(b.grid.count(2)).append(' ').append(b.grid.count(4)).append(' ').append(b.result(b.grid.count(1)));
        for (int k = from; k < Math.min(from + CELLS_A_LOOK, ROWS.length * COLUMNS.length); k++) {
            String cell = Bench.cell(ROWS[k / COLUMNS.length], COLUMNS[k % COLUMNS.length]);
            String content = b.content(cell);
            String value = b.value(cell);
            if (!content.isEmpty() || !value.equals("0:")) {
                all.append('\n').append(cell).append(' ').append(content).append(' ').append(value);
            }
        }
        return all.toString();
    }
}
