/** The sentences of the promises 5 to 8: fail, heal, tidy, set. */
final class SpotsEdges {
    private static final int[] NO_TRACKS = {-1, 24, 25, Edges.LEAST, Edges.MOST};

    private SpotsEdges() {
    }

    static void all(Sentences s) {
        fail(s);
        heal(s);
        tidy(s);
        set(s);
    }

    // ---- fail

    private static void fail(Sentences s) {
        s.hold(5, "Lets a cell fail. Undoable.", SpotsEdges::failIsUndoable);
        s.hold(5, "`track`: 0 to 23", SpotsEdges::failTracks);
        s.hold(5, "`sector`: 0 to 23", SpotsEdges::failSectors);
        s.hold(5, "Returns how many lines there are then.", SpotsEdges::failReturns);
        s.hold(5, "Throws `IllegalArgumentException` if an argument is out of range", SpotsEdges::failNoSuchCell);
        s.hold(5, "Throws `IllegalStateException` if it is a spot, or there are 12", SpotsEdges::failCannot);
    }

    private static void failIsUndoable() {
        Edges.undoable("fail(0, 10), a value is lost", x -> x.fail(0, 10));
        Edges.undoable("fail(20, 0), a value is lost from a spare", x -> x.fail(20, 0));
        Edges.undoable("fail(10, 10), nothing is there", x -> x.fail(10, 10));
        Edges.undoable("fail(0, 3), an avoided cell", x -> x.fail(0, 3));
        Edges.undoable("fail(0, 20), the line goes", x -> x.fail(0, 20));
    }

    private static void failTracks() {
        ScratchMap x = new ScratchMap();
        x.fail(0, 7);
        x.fail(23, 7);
        Due.is("cells", x.cell(0, 7, 0) + x.cell(23, 7, 0), 4);
        Due.is("spots", x.count(0), 2);
        for (int track : NO_TRACKS) {
            Edges.refuses(Scenes::worn, Edges.ARGUMENT, "fail(" + track + ", 7)", y -> y.fail(track, 7));
        }
    }

    private static void failSectors() {
        ScratchMap x = new ScratchMap();
        x.fail(7, 0);
        x.fail(7, 23);
        Due.is("cells", x.cell(7, 0, 0) + x.cell(7, 23, 0), 4);
        Due.is("spots", x.count(0), 2);
        for (int sector : NO_TRACKS) {
            Edges.refuses(Scenes::worn, Edges.ARGUMENT, "fail(7, " + sector + ")", y -> y.fail(7, sector));
        }
    }

    private static void failReturns() {
        ScratchMap x = new ScratchMap();
        int[] sectors = {0, 1, 2, 3, 20, 19, 18};
        int[] lines = {0, 0, 1, 1, 0, 0, 0};
        for (int i = 0; i < sectors.length; i++) {
            Due.is("fail(0, " + sectors[i] + ")", x.fail(0, sectors[i]), lines[i]);
        }
        ScratchMap y = Scenes.withSpots(5, 5, 5, 6, 5, 7, 7, 5, 7, 6, 7, 7, 6, 5, 6, 7);
        Due.is("a square but for its middle: lines", y.count(1), 4);
        Due.is("fail(6, 6), its middle", y.fail(6, 6), 8);
    }

    private static void failNoSuchCell() {
        int[][] bad = {{-1, -1}, {24, 24}, {-1, 24}, {24, -1}, {1, -24}, {0, 575}, {-1, 47}, {Edges.LEAST, Edges.LEAST}, {Edges.MOST, Edges.MOST}};
        for (int[] a : bad) {
            Edges.refuses(Scenes::worn, Edges.ARGUMENT, "fail(" + a[0] + ", " + a[1] + ")", x -> x.fail(a[0], a[1]));
            Edges.refuses(Scenes::withoutRoom, Edges.ARGUMENT, "fail(" + a[0] + ", " + a[1] + ") with 12 spots", x -> x.fail(a[0], a[1]));
        }
    }

    private static void failCannot() {
        ScratchMap x = Scenes.jammed();
        x.heal(20, 0);
        Due.is("11 spots", x.count(0), 11);
        x.fail(23, 23);
        Due.is("fail(23, 23), the 12th", x.count(0), 12);
        Due.is("fail(20, 0), the 13th", Due.outcome(() -> x.fail(20, 0)), Edges.STATE);
        Edges.refuses(Scenes::jammed, Edges.STATE, "fail(0, 0), the 13th", y -> y.fail(0, 0));
        Edges.refuses(Scenes::jammed, Edges.STATE, "fail(20, 0), a spot, and there are 12", y -> y.fail(20, 0));
        Edges.refuses(Scenes::worn, Edges.STATE, "fail(0, 0), the first spot", y -> y.fail(0, 0));
        Edges.refuses(Scenes::worn, Edges.STATE, "fail(20, 1), the last spot", y -> y.fail(20, 1));
        Edges.refuses(() -> Scenes.withSpots(0, 0), Edges.STATE, "fail(0, 0), the only spot", y -> y.fail(0, 0));
        Edges.refuses(() -> Scenes.withSpots(23, 23), Edges.STATE, "fail(23, 23), the only spot", y -> y.fail(23, 23));
    }

    // ---- heal

    private static void heal(Sentences s) {
        s.hold(6, "Makes a spot good again. Undoable.", SpotsEdges::healIsUndoable);
        s.hold(6, "`track`: 0 to 23", SpotsEdges::healTracks);
        s.hold(6, "`sector`: 0 to 23", SpotsEdges::healSectors);
        s.hold(6, "Returns how many lines there are then.", SpotsEdges::healReturns);
        s.hold(6, "Throws `IllegalArgumentException` if an argument is out of range", SpotsEdges::healNoSuchCell);
        s.hold(6, "Throws `IllegalStateException` if it is no spot", SpotsEdges::healCannot);
    }

    private static void healIsUndoable() {
        Edges.undoable("heal(0, 0), the line goes", x -> x.heal(0, 0));
        Edges.undoable("heal(20, 1), of no line", x -> x.heal(20, 1));
        ScratchMap x = Scenes.withSpots(1, 1, 2, 5, 9, 9);
        x.heal(2, 5);
        Due.is("cell(2, 5, 0)", x.cell(2, 5, 0), 0);
        Due.is("cell(2, 5, 3)", x.cell(2, 5, 3), -1);
        Due.is("the spot ahead of it", x.cell(1, 1, 3), 0);
        Due.is("the spot behind it", x.cell(9, 9, 3), 1);
        x.heal(9, 9);
        x.heal(1, 1);
        Due.is("the last spot healed", x.count(0), 0);
    }

    private static void healTracks() {
        ScratchMap x = Scenes.withSpots(0, 7, 23, 7);
        x.heal(0, 7);
        x.heal(23, 7);
        Due.is("spots", x.count(0), 0);
        for (int track : NO_TRACKS) {
            Edges.refuses(Scenes::worn, Edges.ARGUMENT, "heal(" + track + ", 1)", y -> y.heal(track, 1));
        }
    }

    private static void healSectors() {
        ScratchMap x = Scenes.withSpots(7, 0, 7, 23);
        x.heal(7, 0);
        x.heal(7, 23);
        Due.is("spots", x.count(0), 0);
        for (int sector : NO_TRACKS) {
            Edges.refuses(Scenes::worn, Edges.ARGUMENT, "heal(0, " + sector + ")", y -> y.heal(0, sector));
        }
    }

    private static void healReturns() {
        ScratchMap x = Scenes.withSpots(0, 0, 0, 1, 0, 2, 0, 3, 0, 20);
        Due.is("heal(0, 20), the far one", x.heal(0, 20), 1);
        Due.is("heal(0, 1)", x.heal(0, 1), 1);
        Due.is("heal(0, 0)", x.heal(0, 0), 0);
        Due.is("heal(0, 2)", x.heal(0, 2), 0);
        Due.is("heal(0, 3)", x.heal(0, 3), 0);
        ScratchMap y = Scenes.withSpots(5, 5, 5, 6, 5, 7, 6, 5, 6, 6, 6, 7, 7, 5, 7, 6, 7, 7);
        Due.is("heal(6, 6), the middle of a square", y.heal(6, 6), 4);
    }

    private static void healNoSuchCell() {
        int[][] bad = {{-1, -1}, {24, 24}, {-1, 24}, {1, -24}, {0, 481}, {-1, 26}, {Edges.LEAST, Edges.MOST}};
        for (int[] a : bad) {
            Edges.refuses(Scenes::worn, Edges.ARGUMENT, "heal(" + a[0] + ", " + a[1] + ")", x -> x.heal(a[0], a[1]));
            Edges.refuses(ScratchMap::new, Edges.ARGUMENT, "heal(" + a[0] + ", " + a[1] + ") without spots", x -> x.heal(a[0], a[1]));
        }
    }

    private static void healCannot() {
        Edges.refuses(ScratchMap::new, Edges.STATE, "heal(0, 0) without spots", x -> x.heal(0, 0));
        Edges.refuses(ScratchMap::new, Edges.STATE, "heal(23, 23) without spots", x -> x.heal(23, 23));
        Edges.refuses(Scenes::worn, Edges.STATE, "heal(0, 3), avoided", x -> x.heal(0, 3));
        Edges.refuses(Scenes::worn, Edges.STATE, "heal(10, 10), good", x -> x.heal(10, 10));
        Edges.refuses(Scenes::jammed, Edges.STATE, "heal(0, 0) with 12 spots", x -> x.heal(0, 0));
        ScratchMap x = Scenes.withSpots(4, 4);
        x.heal(4, 4);
        Due.is("heal(4, 4) again", Due.outcome(() -> x.heal(4, 4)), Edges.STATE);
    }

    // ---- tidy

    private static void tidy(Sentences s) {
        s.hold(7, "Tidies up. Undoable.", SpotsEdges::tidyIsUndoable);
        s.hold(7, "`moves`: 1 to 99, how many moves at most", SpotsEdges::tidyMoves);
        s.hold(7, "Returns how many there are.", SpotsEdges::tidyReturns);
        s.hold(7, "Throws `IllegalArgumentException` if moves is out of range", SpotsEdges::tidyNoSuchNumber);
    }

    private static void tidyIsUndoable() {
        Edges.undoable("tidy(1)", x -> x.tidy(1));
        Edges.undoable("tidy(99)", x -> x.tidy(99));
        Edges.undoable(() -> Scenes.withSpots(0, 0, 1, 1), "tidy(99), nothing to do", x -> x.tidy(99));
        Edges.undoable(Scenes::withoutRoomForLong, "tidy(99), no room", x -> x.tidy(99));
    }

    private static void tidyMoves() {
        Due.is("tidy(1) of two", Scenes.worn().tidy(1), 1);
        ScratchMap x = Scenes.inNeedOfManyMoves();
        Due.is("tidy(99) of more", x.tidy(99), 99);
        ScratchMap y = Scenes.inNeedOfManyMoves();
        Due.is("tidy(98) of more", y.tidy(98), 98);
        Edges.refuses(Scenes::worn, Edges.ARGUMENT, "tidy(0)", z -> z.tidy(0));
        Edges.refuses(Scenes::inNeedOfManyMoves, Edges.ARGUMENT, "tidy(100)", z -> z.tidy(100));
    }

    private static void tidyReturns() {
        Due.is("tidy(1) of a new object", new ScratchMap().tidy(1), 0);
        ScratchMap x = new ScratchMap();
        x.fill(0, 6, 1);
        Scenes.failAll(x, 0, 0, 0, 1, 0, 2);
        Due.is("tidy(1) of two", x.tidy(1), 1);
        Due.is("tidy(2) of one", x.tidy(2), 1);
        Due.is("tidy(99) of none", x.tidy(99), 0);
        Due.is("moves so far", x.count(8), 2);
        Due.is("tidy(99) without room", Scenes.withoutRoom().tidy(99), 0);
        Due.is("tidy(99), as many as there are spares", Scenes.crowded().tidy(99), 96);
    }

    private static void tidyNoSuchNumber() {
        for (int moves : new int[] {0, -1, 100, 480, Edges.LEAST, Edges.MOST}) {
            Edges.refuses(Scenes::worn, Edges.ARGUMENT, "tidy(" + moves + ")", x -> x.tidy(moves));
            Edges.refuses(ScratchMap::new, Edges.ARGUMENT, "tidy(" + moves + ") of a new object", x -> x.tidy(moves));
        }
    }

    // ---- set

    private static void set(Sentences s) {
        s.hold(8, "Changes a setting. Undoable.", SpotsEdges::setIsUndoable);
        s.hold(8, "`setting`: 0 to 2", SpotsEdges::setSettings);
        s.hold(8, "`value`: the new value", SpotsEdges::setValues);
        s.hold(8, "Returns the previous value.", SpotsEdges::setReturns);
        s.hold(8, "Throws `IndexOutOfBoundsException` if there is no such setting", SpotsEdges::setNoSuchSetting);
        s.hold(8, "Throws `IllegalArgumentException` if value is out of range", SpotsEdges::setNoSuchValue);
    }

    private static void setIsUndoable() {
        Edges.undoable("set(0, 4), the line goes", x -> x.set(0, 4));
        Edges.undoable("set(1, 1)", x -> x.set(1, 1));
        Edges.undoable("set(2, 6)", x -> x.set(2, 6));
        Edges.undoable("set(1, 3), nothing new", x -> x.set(1, 3));
        ScratchMap x = Scenes.withSpots(0, 0, 0, 1, 0, 2);
        x.set(0, 4);
        Due.is("a line goes by it", x.count(1) + x.count(2), 0);
        x.set(0, 3);
        Due.is("a line comes by it", x.count(1) + x.count(2), 3);
    }

    private static void setSettings() {
        ScratchMap x = new ScratchMap();
        x.set(0, 5);
        x.set(2, 5);
        x.set(1, 5);
        Due.is("settings", x.setting(0) * 100 + x.setting(1) * 10 + x.setting(2), 555);
        Edges.refuses(Scenes::worn, Edges.INDEX, "set(-1, 5)", y -> y.set(-1, 5));
        Edges.refuses(Scenes::worn, Edges.INDEX, "set(3, 5)", y -> y.set(3, 5));
    }

    private static void setValues() {
        int[][] allowed = {{0, 3}, {0, 6}, {1, 1}, {1, 8}, {2, 0}, {2, 6}};
        for (int[] a : allowed) {
            ScratchMap x = Scenes.worn();
            x.set(a[0], a[1]);
            Due.is("setting(" + a[0] + ") then", x.setting(a[0]), a[1]);
        }
        int[][] bad = {{0, 2}, {0, 7}, {1, 0}, {1, 9}, {2, -1}, {2, 7}};
        for (int[] a : bad) {
            Edges.refuses(Scenes::worn, Edges.ARGUMENT, "set(" + a[0] + ", " + a[1] + ")", x -> x.set(a[0], a[1]));
        }
    }

    private static void setReturns() {
        ScratchMap x = new ScratchMap();
        int[][] calls = {{0, 6, 3}, {0, 3, 6}, {1, 8, 3}, {1, 1, 8}, {2, 0, 2}, {2, 6, 0}, {2, 6, 6}, {2, 1, 6}, {0, 4, 3}, {1, 2, 1}};
        for (int[] c : calls) {
            Due.is("set(" + c[0] + ", " + c[1] + ")", x.set(c[0], c[1]), c[2]);
        }
    }

    private static void setNoSuchSetting() {
        for (int setting : new int[] {-1, 3, 4, Edges.LEAST, Edges.MOST}) {
            for (int value : new int[] {3, -1, 9, Edges.LEAST, Edges.MOST}) {
                Edges.refuses(Scenes::worn, Edges.INDEX, "set(" + setting + ", " + value + ")", x -> x.set(setting, value));
            }
        }
    }

    private static void setNoSuchValue() {
        for (int setting = 0; setting < 3; setting++) {
            int a = setting;
            for (int value : new int[] {-1, 9, 480, Edges.LEAST, Edges.MOST}) {
                Edges.refuses(Scenes::worn, Edges.ARGUMENT, "set(" + a + ", " + value + ")", x -> x.set(a, value));
            }
        }
    }
}
