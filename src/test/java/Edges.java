import java.util.function.Supplier;

/** What the tests by sentences have in common. */
final class Edges {
    static final Class<IndexOutOfBoundsException> INDEX = IndexOutOfBoundsException.class;
    static final Class<IllegalArgumentException> ARGUMENT = IllegalArgumentException.class;
    static final Class<IllegalStateException> STATE = IllegalStateException.class;
    static final int LEAST = Integer.MIN_VALUE;
    static final int MOST = Integer.MAX_VALUE;

    interface Call {
        Object on(ScratchMap x);
    }

    private Edges() {
    }

    /** The call throws this very class, and all is as with a twin that was not called. */
    static void refuses(Supplier<ScratchMap> scene, Class<? extends RuntimeException> want, String name, Call call) {
        ScratchMap x = scene.get();
        Due.is(name, Due.outcome(() -> call.on(x)), want);
        sameToTheOldest(name, x, scene.get());
    }

    static void changesNothing(Supplier<ScratchMap> scene, String name, Call call) {
        ScratchMap x = scene.get();
        Due.outcome(() -> call.on(x));
        sameToTheOldest(name, x, scene.get());
    }

    /** The call saves one state, and undo() brings all back but the buffer, which is empty in both. */
    static void undoable(String name, Call call) {
        undoable(Scenes::worn, name, call);
    }

    static void undoable(Supplier<ScratchMap> scene, String name, Call call) {
        ScratchMap x = scene.get();
        ScratchMap twin = scene.get();
        x.undo();
        twin.undo();
        int saved = twin.count(9);
        Due.is(name + " throws", Due.outcome(() -> call.on(x)) instanceof Class, false);
        Due.is(name + ": saved states", x.count(9), saved + 1);
        Due.is(name + ": undo()", Due.outcome(x::undo), saved);
        x.clearBuffer();
        twin.clearBuffer();
        sameToTheOldest(name + " and undo()", x, twin);
    }

    /** A hash of all that is shown now, and after each undo(). */
    private static void sameToTheOldest(String name, ScratchMap x, ScratchMap twin) {
        Due.is(name + ": digest()", x.digest(), twin.digest());
        for (int left = twin.count(9) - 1; left >= 0; left--) {
            Due.is(name + ": undo()", Due.outcome(x::undo), twin.undo());
            Due.is(name + ": digest() with " + left + " saved states", x.digest(), twin.digest());
        }
    }

    /** The lines' cells that are no spots are these, and no others. */
    static void avoids(String name, ScratchMap x, int... cells) {
        Due.is(name + ": avoided cells", x.count(2), cells.length);
        for (int cell : cells) {
            Due.is(name + ": cell " + cell, x.cell(cell / 24, cell % 24, 0), 1);
        }
    }

    static int[] range(int first, int last, int step) {
        int[] all = new int[(last - first) / step + 1];
        for (int i = 0; i < all.length; i++) {
            all[i] = first + i * step;
        }
        return all;
    }
}
