/** The sentences about undo, ahead of the promises and in the promise 13. */
final class UndoEdges {
    private UndoEdges() {
    }

    static void all(Sentences s) {
        s.hold(0, "Each method that is marked \"undoable\" and does not throw an exception saves the state from before it", UndoEdges::undoableCallsSave);
        s.hold(0, "(also if it changes nothing)", UndoEdges::callsThatChangeNothingSave);
        s.hold(0, "all, also what is counted so far, but the buffer and the saved states.", UndoEdges::allButTheBuffer);
        s.hold(0, "At most 6 states are saved; the oldest one is dropped first.", UndoEdges::sixStates);
        s.hold(13, "Restores the latest saved state, and drops it.", UndoEdges::restoresTheLatest);
        s.hold(13, "Returns how many saved states are left.", UndoEdges::undoReturns);
        s.hold(13, "Throws `IllegalStateException` if there is none", UndoEdges::nothingToUndo);
    }

    /** A fresh object, and the number of saved states before and after the call. */
    private static void saves(String name, int more, Edges.Call call) {
        ScratchMap x = Scenes.withText("1,1;-0,0");
        Due.outcome(() -> call.on(x));
        Due.is("saved states after " + name, x.count(9), 3 + more);
    }

    private static void undoableCallsSave() {
        saves("write(5, 1)", 1, x -> x.write(5, 1));
        saves("fill(5, 2, 1)", 1, x -> x.fill(5, 2, 1));
        saves("drop(5)", 1, x -> x.drop(5));
        saves("fail(5, 5)", 1, x -> x.fail(5, 5));
        saves("heal(0, 0)", 1, x -> x.heal(0, 0));
        saves("tidy(5)", 1, x -> x.tidy(5));
        saves("set(2, 5)", 1, x -> x.set(2, 5));
        saves("read()", 1, ScratchMap::read);
        saves("write(5, 1000)", 0, x -> x.write(5, 1000));
        saves("fill(479, 2, 1)", 0, x -> x.fill(479, 2, 1));
        saves("drop(480)", 0, x -> x.drop(480));
        saves("fail(0, 0)", 0, x -> x.fail(0, 0));
        saves("heal(5, 5)", 0, x -> x.heal(5, 5));
        saves("tidy(0)", 0, x -> x.tidy(0));
        saves("set(2, 7)", 0, x -> x.set(2, 7));
        saves("append(';') and read()", 0, x -> x.append(';') + x.read());
        saves("append(49)", 0, x -> x.append('1'));
        saves("clearBuffer()", 0, ScratchMap::clearBuffer);
        saves("firstError()", 0, ScratchMap::firstError);
        saves("undo()", -1, ScratchMap::undo);
        saves("cell(0, 0, 0)", 0, x -> x.cell(0, 0, 0));
        saves("block(0, 0)", 0, x -> x.block(0, 0));
        saves("count(9)", 0, x -> x.count(9));
        saves("setting(0)", 0, x -> x.setting(0));
        saves("ifFailed(5, 5, 0)", 0, x -> x.ifFailed(5, 5, 0));
        saves("worst()", 0, ScratchMap::worst);
        saves("untidy()", 0, ScratchMap::untidy);
        saves("find(1)", 0, x -> x.find(1));
        saves("goodShare()", 0, ScratchMap::goodShare);
        saves("digest()", 0, ScratchMap::digest);
    }

    private static void callsThatChangeNothingSave() {
        ScratchMap x = new ScratchMap();
        x.drop(3);
        Due.is("drop(3) of no value", x.count(9), 1);
        x.tidy(9);
        Due.is("tidy(9) without a move", x.count(9), 2);
        x.set(2, 2);
        Due.is("set(2, 2) as it was", x.count(9), 3);
        Scenes.type(x, "-1,1");
        x.read();
        Due.is("read() of none", x.count(9), 4);
        x.write(3, 8);
        x.write(3, 8);
        Due.is("write(3, 8) as it was", x.count(9), 6);
        Due.is("undo() of it", x.undo(), 5);
        Due.is("block(3, 0)", x.block(3, 0), 8);
        ScratchMap y = Scenes.withoutRoom();
        y.undo();
        y.undo();
        y.write(352, 5);
        y.write(360, 5);
        Due.is("saved states", y.count(9), 6);
        y.undo();
        y.write(360, 5);
        Due.is("fill(368, 3, 1) of none", y.fill(368, 3, 1), 0);
        Due.is("saved then", y.undo(), 5);
        Due.is("one state more than without it", y.block(360, 0), 5);
    }

    private static void allButTheBuffer() {
        ScratchMap x = Scenes.withSpots(0, 0, 0, 1);
        x.fill(2, 3, 4);
        Scenes.type(x, "0,2");
        Due.is("read(), a value is lost", x.read(), 1);
        Due.is("tidy(9)", x.tidy(9), 2);
        Due.is("moves, lost, lines, spots", count(x, 8, 7, 1, 0), "2 1 1 3");
        x.append('7');
        Due.is("undo() of tidy()", x.undo(), 4);
        Due.is("moves, lost, lines, spots after undo()", count(x, 8, 7, 1, 0), "0 1 1 3");
        Due.is("undo() of read()", x.undo(), 3);
        Due.is("moves, lost, lines, spots after both", count(x, 8, 7, 1, 0), "0 0 0 2");
        Due.is("block(2, 0), not lost any more", x.block(2, 0), 4);
        Due.is("the buffer is as it is", x.clearBuffer(), 1);
        x.set(0, 6);
        x.set(1, 8);
        x.set(2, 0);
        x.undo();
        x.undo();
        Due.is("the settings come back", x.setting(0) * 100 + x.setting(1) * 10 + x.setting(2), 632);
        x.undo();
        Due.is("and the first of them", x.setting(0), 3);
        Due.is("saved states go one by one", x.count(9), 3);
    }

    private static String count(ScratchMap x, int... whats) {
        StringBuilder all = new StringBuilder();
        for (int what : whats) {
            all.append(all.length() > 0 ? " " : "").append(x.count(what));
        }
        return all.toString();
    }

    private static void sixStates() {
        ScratchMap x = new ScratchMap();
        for (int value = 1; value <= 20; value++) {
            x.write(9, value);
            Due.is("saved states after " + value + " calls", x.count(9), value < 6 ? value : 6);
        }
        for (int left = 5; left >= 0; left--) {
            Due.is("undo()", x.undo(), left);
            Due.is("block(9, 0) with " + left + " left", x.block(9, 0), 14 + left);
        }
        Due.is("the seventh undo()", Due.outcome(x::undo), Edges.STATE);
        Due.is("block(9, 0), as the dropped ones are gone", x.block(9, 0), 14);
    }

    private static void restoresTheLatest() {
        ScratchMap x = new ScratchMap();
        x.write(1, 10);
        x.write(1, 11);
        x.undo();
        Due.is("block(1, 0)", x.block(1, 0), 10);
        x.write(1, 12);
        x.write(1, 13);
        x.undo();
        Due.is("block(1, 0) of the latest", x.block(1, 0), 12);
        x.undo();
        Due.is("block(1, 0) of the one before", x.block(1, 0), 10);
        x.undo();
        Due.is("block(1, 0) at first", x.block(1, 0), -1);
        Due.is("digest() at first", x.digest(), new ScratchMap().digest());
        ScratchMap y = Scenes.withSpots(9, 9, 9, 10, 9, 11);
        y.heal(9, 9);
        y.undo();
        Due.is("a healed spot comes back in its place", y.cell(9, 9, 3), 0);
        Due.is("its line comes back", y.line(0, 0), 7);
        Due.is("it can be healed again", y.heal(9, 9), 0);
    }

    private static void undoReturns() {
        ScratchMap x = Scenes.worn();
        for (int left = 5; left >= 0; left--) {
            Due.is("undo()", x.undo(), left);
            Due.is("count(9)", x.count(9), left);
        }
        x.write(1, 1);
        Due.is("undo() of the only one", x.undo(), 0);
    }

    private static void nothingToUndo() {
        Edges.refuses(ScratchMap::new, Edges.STATE, "undo() of a new object", ScratchMap::undo);
        Edges.refuses(() -> Scenes.undone(7), Edges.STATE, "undo() after all six", ScratchMap::undo);
        ScratchMap x = new ScratchMap();
        Scenes.type(x, "1,1;");
        Due.is("write(480, 1)", Due.outcome(() -> x.write(480, 1)), Edges.INDEX);
        Due.is("read()", Due.outcome(x::read), Edges.ARGUMENT);
        Due.is("heal(1, 1)", Due.outcome(() -> x.heal(1, 1)), Edges.STATE);
        Due.is("undo() after refused calls", Due.outcome(x::undo), Edges.STATE);
        x.drop(1);
        Due.is("undo() of one", x.undo(), 0);
        Due.is("undo() again", Due.outcome(x::undo), Edges.STATE);
    }
}
