/** The sentences of the promises 14 to 18: cell, block, line, count, setting. */
final class LooksEdges {
    private static final int[] NO_TRACKS = {-1, 24, 25, Edges.LEAST, Edges.MOST};
    private static final int[] NO_BLOCKS = {-1, 480, 481, 575, Edges.LEAST, Edges.MOST};

    private LooksEdges() {
    }

    static void all(Sentences s) {
        s.hold(0, "Ahead of the calls `cell`, `block`, `line`, `count`, `setting` the interface says: ---- looks; nothing is changed.", LooksEdges::nothingIsChanged);
        cell(s);
        block(s);
        line(s);
        count(s);
        s.hold(18, "Returns a setting.", () -> Due.is("setting(1) after set(1, 8)", setTo(1, 8).setting(1), 8));
        s.hold(18, "`setting`: 0 to 2", LooksEdges::settings);
        s.hold(18, "Returns its value.", LooksEdges::settingReturns);
        s.hold(18, "Throws `IndexOutOfBoundsException` if there is no such setting", LooksEdges::noSuchSetting);
    }

    private static void nothingIsChanged() {
        for (int what = 0; what < 4; what++) {
            int a = what;
            Edges.changesNothing(Scenes::worn, "cell(0, 3, " + a + ")", x -> x.cell(0, 3, a));
            Edges.changesNothing(Scenes::worn, "block(4, " + a + ")", x -> x.block(4, a));
            Edges.changesNothing(Scenes::withoutRoom, "block(384, " + a + ")", x -> x.block(384, a));
        }
        for (int what = 0; what < 6; what++) {
            int a = what;
            Edges.changesNothing(Scenes::worn, "line(0, " + a + ")", x -> x.line(0, a));
        }
        for (int what = 0; what < 10; what++) {
            int a = what;
            Edges.changesNothing(Scenes::worn, "count(" + a + ")", x -> x.count(a));
        }
        Edges.changesNothing(Scenes::worn, "setting(2)", x -> x.setting(2));
    }

    // ---- cell

    private static void cell(Sentences s) {
        s.hold(14, "Returns a property of a cell.", LooksEdges::cellAfterEachChange);
        s.hold(14, "`track`: 0 to 23", LooksEdges::cellTracks);
        s.hold(14, "`sector`: 0 to 23", LooksEdges::cellSectors);
        s.hold(14, "`what`: 0: 0 if it is good, 1 if it is avoided, 2 if it is a spot;", LooksEdges::cellKinds);
        s.hold(14, "1: the block whose value it has, NONE if it is not taken;", LooksEdges::cellBlocks);
        s.hold(14, "2: how many lines have it as a cell;", LooksEdges::cellLines);
        s.hold(14, "3: which spot it is, from 0, NONE if it is none", LooksEdges::cellSpots);
        s.hold(14, "Returns the property.", LooksEdges::cellReturns);
        s.hold(14, "Throws `IllegalArgumentException` if an argument is out of range", LooksEdges::noSuchCell);
    }

    private static void properties(String name, ScratchMap x, int track, int sector, int... due) {
        for (int what = 0; what < 4; what++) {
            Due.is(name + ": cell(" + track + ", " + sector + ", " + what + ")", x.cell(track, sector, what), due[what]);
        }
    }

    private static void cellAfterEachChange() {
        ScratchMap x = new ScratchMap();
        properties("at first", x, 0, 3, 0, -1, 0, -1);
        x.write(3, 0);
        properties("written", x, 0, 3, 0, 3, 0, -1);
        Scenes.failAll(x, 0, 0, 0, 1, 0, 2);
        properties("avoided", x, 0, 3, 1, 3, 1, -1);
        x.fail(0, 3);
        properties("failed", x, 0, 3, 2, -1, 1, 3);
        x.heal(0, 0);
        properties("another spot healed", x, 0, 3, 2, -1, 1, 2);
        x.heal(0, 3);
        properties("healed", x, 0, 3, 0, -1, 0, -1);
    }

    private static void cellTracks() {
        ScratchMap x = Scenes.withSpots(0, 7, 23, 7);
        properties("the first track", x, 0, 7, 2, -1, 0, 0);
        properties("the last track", x, 23, 7, 2, -1, 0, 1);
        for (int track : NO_TRACKS) {
            Edges.refuses(Scenes::worn, Edges.ARGUMENT, "cell(" + track + ", 7, 0)", y -> y.cell(track, 7, 0));
        }
    }

    private static void cellSectors() {
        ScratchMap x = Scenes.withSpots(7, 0, 7, 23);
        properties("the first sector", x, 7, 0, 2, -1, 0, 0);
        properties("the last sector", x, 7, 23, 2, -1, 0, 1);
        for (int sector : NO_TRACKS) {
            Edges.refuses(Scenes::worn, Edges.ARGUMENT, "cell(7, " + sector + ", 0)", y -> y.cell(7, sector, 0));
        }
    }

    private static void cellKinds() {
        ScratchMap x = Scenes.withSpots(23, 19, 23, 20, 23, 21, 0, 0);
        int[] due = {0, 1, 1, 2, 2, 2, 1, 1};
        for (int i = 0; i < due.length; i++) {
            Due.is("cell(23, " + (16 + i) + ", 0)", x.cell(23, 16 + i, 0), due[i]);
        }
        Due.is("cell(0, 0, 0), of no line", x.cell(0, 0, 0), 2);
        Due.is("cell(0, 1, 0)", x.cell(0, 1, 0), 0);
    }

    private static void cellBlocks() {
        ScratchMap x = Scenes.withSpots(0, 0);
        x.write(0, 0);
        x.write(479, 5);
        Due.is("cell(20, 0, 1), a spare of the block 0", x.cell(20, 0, 1), 0);
        Due.is("cell(0, 0, 1), its home", x.cell(0, 0, 1), -1);
        Due.is("cell(19, 23, 1)", x.cell(19, 23, 1), 479);
        Due.is("cell(20, 1, 1)", x.cell(20, 1, 1), -1);
        Due.is("cell(23, 23, 1)", x.cell(23, 23, 1), -1);
        Due.is("cell(23, 23, 1), the last spare taken", Scenes.withoutRoom().cell(23, 23, 1), 360);
        x.drop(0);
        Due.is("cell(20, 0, 1), dropped", x.cell(20, 0, 1), -1);
    }

    private static void cellLines() {
        ScratchMap x = Scenes.withSpots(9, 9, 9, 10, 9, 11, 7, 12, 8, 12, 10, 12);
        Due.is("a cell of none", x.cell(3, 3, 2), 0);
        Due.is("a cell of one", x.cell(9, 8, 2), 1);
        Due.is("a spot of one", x.cell(9, 9, 2), 1);
        Due.is("a cell of two", x.cell(9, 12, 2), 2);
        Due.is("a spot of none", Scenes.withSpots(3, 3).cell(3, 3, 2), 0);
        ScratchMap y = Scenes.withSpots(5, 5, 5, 6, 5, 7, 6, 5, 6, 6, 6, 7, 7, 5, 7, 6, 7, 7);
        Due.is("a spot of four", y.cell(6, 6, 2), 4);
    }

    private static void cellSpots() {
        ScratchMap x = Scenes.jammed();
        Due.is("the first spot", x.cell(20, 0, 3), 0);
        Due.is("the last of 12", x.cell(23, 16, 3), 11);
        Due.is("no spot, avoided", x.cell(20, 1, 3), -1);
        Due.is("no spot, good", x.cell(0, 0, 3), -1);
        Due.is("none at all", new ScratchMap().cell(0, 0, 3), -1);
    }

    private static void cellReturns() {
        ScratchMap x = Scenes.worn();
        properties("a spot of the line", x, 0, 0, 2, -1, 1, 0);
        properties("avoided, and left by its block", x, 0, 3, 1, -1, 1, -1);
        properties("avoided and taken", x, 0, 5, 1, 5, 1, -1);
        properties("good", x, 0, 6, 0, 6, 0, -1);
        properties("a spare that is taken", x, 20, 2, 0, 0, 0, -1);
        properties("the last spot", x, 20, 1, 2, -1, 0, 4);
    }

    private static void noSuchCell() {
        int[][] bad = {{0, 0, -1}, {0, 0, 4}, {0, 0, Edges.LEAST}, {0, 0, Edges.MOST}, {23, 23, 4}, {-1, -1, -1}, {24, 24, 4}, {-1, 24, 0}, {1, -24, 0},
            {24, -1, 0}, {0, 575, 0}};
        for (int[] a : bad) {
            String name = "cell(" + a[0] + ", " + a[1] + ", " + a[2] + ")";
            Edges.refuses(Scenes::worn, Edges.ARGUMENT, name, x -> x.cell(a[0], a[1], a[2]));
            Edges.refuses(ScratchMap::new, Edges.ARGUMENT, name + " of a new object", x -> x.cell(a[0], a[1], a[2]));
        }
    }

    // ---- block

    private static void block(Sentences s) {
        s.hold(15, "Returns a property of a block.", LooksEdges::blockAfterEachChange);
        s.hold(15, "`block`: 0 to 479", LooksEdges::blocks);
        s.hold(15, "`what`: 0: its value, 1: the cell where it is, NONE for both without a value;", LooksEdges::blockValuesAndCells);
        s.hold(15, "2: 1 if it is in a spare cell, otherwise 0;", LooksEdges::blockInSpare);
        s.hold(15, "3: the cell to which it would come, if it was written now, NONE if it cannot be written", LooksEdges::blockIfWritten);
        s.hold(15, "Returns the property.", LooksEdges::blockReturns);
        s.hold(15, "Throws `IndexOutOfBoundsException` if there is no such block", LooksEdges::noSuchBlock);
        s.hold(15, "Throws `IllegalArgumentException` if what is not 0 to 3", LooksEdges::noSuchBlockProperty);
    }

    private static void block(String name, ScratchMap x, int block, int... due) {
        for (int what = 0; what < 4; what++) {
            Due.is(name + ": block(" + block + ", " + what + ")", x.block(block, what), due[what]);
        }
    }

    private static void blockAfterEachChange() {
        ScratchMap x = new ScratchMap();
        block("at first", x, 3, -1, -1, 0, 3);
        x.write(3, 0);
        block("written", x, 3, 0, 3, 0, 3);
        Scenes.failAll(x, 0, 0, 0, 1, 0, 2);
        block("avoided", x, 3, 0, 3, 0, 480);
        x.tidy(1);
        block("in a spare", x, 3, 0, 480, 1, 480);
        x.heal(0, 0);
        block("with a good home", x, 3, 0, 480, 1, 480);
        x.tidy(1);
        block("back", x, 3, 0, 3, 0, 3);
        x.fail(0, 3);
        block("lost", x, 3, -1, -1, 0, 480);
    }

    private static void blocks() {
        ScratchMap x = new ScratchMap();
        x.write(0, 7);
        x.write(479, 8);
        block("the first", x, 0, 7, 0, 0, 0);
        block("the last", x, 479, 8, 479, 0, 479);
        for (int block : NO_BLOCKS) {
            Edges.refuses(Scenes::worn, Edges.INDEX, "block(" + block + ", 0)", y -> y.block(block, 0));
        }
    }

    private static void blockValuesAndCells() {
        ScratchMap x = new ScratchMap();
        block("never written", x, 5, -1, -1, 0, 5);
        x.write(5, 999);
        block("999", x, 5, 999, 5, 0, 5);
        x.write(5, 0);
        block("0 is a value", x, 5, 0, 5, 0, 5);
        x.drop(5);
        block("dropped", x, 5, -1, -1, 0, 5);
    }

    private static void blockInSpare() {
        ScratchMap x = Scenes.withSpots(0, 0);
        x.write(0, 1);
        x.write(479, 1);
        Due.is("block(0, 2), in the first spare", x.block(0, 2), 1);
        Due.is("block(479, 2), in the last home", x.block(479, 2), 0);
        Due.is("block(1, 2), without a value", x.block(1, 2), 0);
        Due.is("block(360, 2), in the last spare", Scenes.withoutRoom().block(360, 2), 1);
        Due.is("block(384, 2), in a bad home", Scenes.withoutRoom().block(384, 2), 0);
        x.fail(20, 1);
        Scenes.failAll(x, 20, 2, 20, 3);
        Due.is("block(0, 2), in a bad spare", x.block(0, 2), 1);
    }

    private static void blockIfWritten() {
        ScratchMap x = Scenes.withoutRoom();
        Due.is("block(368, 3), no value, nowhere", x.block(368, 3), -1);
        Due.is("block(384, 3), with a value, nowhere", x.block(384, 3), -1);
        Due.is("block(360, 3), in its good spare", x.block(360, 3), 575);
        Due.is("block(0, 3), at its good home", x.block(0, 3), 0);
        Due.is("block(1, 3), a good home", x.block(1, 3), 1);
        x.undo();
        Due.is("block(368, 3), one spare is free", x.block(368, 3), 575);
        Due.is("block(384, 3), the same", x.block(384, 3), 575);
        Due.is("write(384, 1)", x.write(384, 1), 575);
        ScratchMap y = Scenes.withSpots(0, 0, 19, 23);
        Due.is("block(0, 3), the first spare", y.block(0, 3), 480);
        Due.is("block(479, 3), the same", y.block(479, 3), 480);
    }

    private static void blockReturns() {
        ScratchMap x = Scenes.worn();
        block("in a spare, as its home is a spot", x, 0, 9, 482, 1, 482);
        block("lost with its home", x, 1, -1, -1, 0, 481 + 2);
        block("moved by tidying", x, 3, 7, 480, 1, 480);
        block("in an avoided home", x, 4, 7, 4, 0, 483);
        block("dropped", x, 30, -1, -1, 0, 30);
        block("lost with the last home", x, 479, -1, -1, 0, 483);
        block("at home", x, 478, 8, 478, 0, 478);
    }

    private static void noSuchBlock() {
        for (int block : NO_BLOCKS) {
            for (int what : new int[] {3, 4, -1, Edges.LEAST, Edges.MOST}) {
                Edges.refuses(Scenes::worn, Edges.INDEX, "block(" + block + ", " + what + ")", x -> x.block(block, what));
            }
        }
    }

    private static void noSuchBlockProperty() {
        for (int what : new int[] {-1, 4, 5, Edges.LEAST, Edges.MOST}) {
            Edges.refuses(Scenes::worn, Edges.ARGUMENT, "block(0, " + what + ")", x -> x.block(0, what));
            Edges.refuses(Scenes::worn, Edges.ARGUMENT, "block(479, " + what + ")", x -> x.block(479, what));
        }
    }

    // ---- line

    private static void line(Sentences s) {
        s.hold(16, "Returns a property of a line.", LooksEdges::lineAfterEachChange);
        s.hold(16, "`line`: its number in the order, from 0", LooksEdges::lineNumbers);
        s.hold(16, "`what`: 0: its spots, as a mask: bit k for the spot k;", LooksEdges::lineMasks);
        s.hold(16, "1: how many they are;", LooksEdges::lineSpots);
        s.hold(16, "2: its cells, how many;", LooksEdges::lineCells);
        s.hold(16, "3: the cells of it that are avoided and taken;", LooksEdges::lineTaken);
        s.hold(16, "4: the tracks of a step, 0 or more; 5: the sectors of a step, plus 24 (0 or more before that, if the tracks are 0)", LooksEdges::lineSteps);
        s.hold(16, "Returns the property.", LooksEdges::lineReturns);
        s.hold(16, "Throws `IndexOutOfBoundsException` if there is no such line", LooksEdges::noSuchLine);
        s.hold(16, "Throws `IllegalArgumentException` if what is not 0 to 5", LooksEdges::noSuchLineProperty);
    }

    private static void line(String name, ScratchMap x, int line, int... due) {
        for (int what = 0; what < 6; what++) {
            int a = what;
            Due.is(name + ": line(" + line + ", " + what + ")", Due.outcome(() -> x.line(line, a)), due[what]);
        }
    }

    private static void lineAfterEachChange() {
        ScratchMap x = Scenes.withSpots(4, 4, 4, 5, 4, 6);
        line("three spots", x, 0, 7, 3, 7, 0, 0, 25);
        x.fill(96, 24, 1);
        line("with values in spares", x, 0, 7, 3, 7, 0, 0, 25);
        x.fail(4, 8);
        line("longer", x, 0, 15, 4, 9, 2, 0, 25);
        x.set(2, 0);
        line("shorter", x, 0, 15, 4, 5, 0, 0, 25);
        x.heal(4, 4);
        line("other spots", x, 0, 7, 3, 4, 0, 0, 25);
    }

    private static void lineNumbers() {
        Due.is("line(0, 0) without lines", Due.outcome(() -> Scenes.withSpots(0, 0, 0, 1).line(0, 0)), Edges.INDEX);
        ScratchMap x = Scenes.jammed();
        Due.is("lines", x.count(1), 11);
        Due.is("line(0, 0), the first", x.line(0, 0), 0b111);
        Due.is("line(10, 0), the last", x.line(10, 0), 0b111000000000);
        Due.is("line(16, 1), the last of many", Due.outcome(() -> Scenes.withManyLines().line(16, 1)), 3);
        Edges.refuses(Scenes::withManyLines, Edges.INDEX, "line(17, 0)", y -> y.line(17, 0));
        Edges.refuses(Scenes::jammed, Edges.INDEX, "line(11, 0)", y -> y.line(11, 0));
        Edges.refuses(Scenes::jammed, Edges.INDEX, "line(-1, 0)", y -> y.line(-1, 0));
    }

    private static void lineMasks() {
        ScratchMap x = Scenes.withSpots(0, 0, 9, 3, 2, 9, 5, 14, 0, 20, 14, 3, 17, 9, 18, 20, 12, 11, 23, 23, 23, 22, 23, 21);
        Due.is("the last three of 12: lines", x.count(1), 1);
        Due.is("its mask", x.line(0, 0), 0b111000000000);
        x.heal(0, 0);
        Due.is("its mask, moved up", x.line(0, 0), 0b11100000000);
        ScratchMap y = Scenes.withSpots(0, 0, 5, 9, 0, 1, 9, 5, 0, 2);
        Due.is("not side by side", y.line(0, 0), 0b10101);
    }

    private static void lineSpots() {
        ScratchMap x = new ScratchMap();
        for (int sector = 0; sector < 12; sector++) {
            x.fail(3, sector);
            if (sector > 1) {
                Due.is("line(0, 1) with the sector " + sector, x.line(0, 1), sector + 1);
            }
        }
    }

    private static void lineCells() {
        ScratchMap x = Scenes.withSpots(9, 9, 10, 9, 11, 9);
        int[] due = {3, 5, 7, 9, 11, 13, 15};
        for (int beyond = 0; beyond <= 6; beyond++) {
            x.set(2, beyond);
            Due.is("line(0, 2) with " + beyond + " beyond", x.line(0, 2), due[beyond]);
        }
        Due.is("cut on one side", Scenes.withSpots(0, 0, 0, 1, 0, 2).line(0, 2), 5);
        Due.is("cut on the other side", Scenes.withSpots(23, 23, 23, 22, 23, 21).line(0, 2), 5);
        ScratchMap y = Scenes.withSpots(0, 0, 0, 8, 0, 16, 0, 23);
        y.set(1, 8);
        y.set(2, 6);
        Due.is("a whole track", y.line(0, 2), 24);
    }

    private static void lineTaken() {
        ScratchMap x = new ScratchMap();
        x.fill(0, 24, 0);
        Scenes.failAll(x, 0, 8, 0, 9, 0, 11);
        Due.is("between and beyond, without the spots", x.line(0, 3), 5);
        x.drop(10);
        Due.is("one without a value", x.line(0, 3), 4);
        Due.is("tidy(1)", x.tidy(1), 1);
        Due.is("one moved", x.line(0, 3), 3);
        x.tidy(99);
        Due.is("all moved", x.line(0, 3), 0);
        Scenes.failAll(x, 20, 4, 20, 5, 20, 6);
        Due.is("taken spares", x.line(1, 3), 2);
    }

    private static void lineSteps() {
        line("11 tracks, a sector back", Scenes.withSpots(0, 2, 11, 1, 22, 0), 0, 7, 3, 3, 0, 11, 23);
        line("a track, 11 sectors back", Scenes.withSpots(0, 22, 1, 11, 2, 0), 0, 7, 3, 3, 0, 1, 13);
        line("a track, 11 sectors", Scenes.withSpots(2, 22, 1, 11, 0, 0), 0, 7, 3, 3, 0, 1, 35);
        line("no track: a sector, not back", Scenes.withSpots(0, 2, 0, 1, 0, 0), 0, 7, 3, 5, 0, 0, 25);
        line("no sector: a track, not back", Scenes.withSpots(2, 0, 1, 0, 0, 0), 0, 7, 3, 5, 0, 1, 24);
        line("first spot in the middle", Scenes.withSpots(1, 1, 2, 0, 0, 2), 0, 7, 3, 3, 0, 1, 23);
    }

    private static void lineReturns() {
        ScratchMap x = new ScratchMap();
        x.fill(0, 48, 1);
        x.fill(48, 48, 1);
        Scenes.failAll(x, 0, 0, 4, 6, 8, 12, 8, 0, 6, 3);
        line("of the first spot", x, 0, 0b111, 3, 7, 1, 2, 27);
        line("of the second spot", x, 1, 0b11010, 3, 5, 2, 2, 21);
        Due.is("lines", x.count(1), 2);
    }

    private static void noSuchLine() {
        for (int line : new int[] {-1, 1, 2, 22, 23, 66, Edges.LEAST, Edges.MOST}) {
            for (int what : new int[] {0, 5, -1, 6, Edges.LEAST, Edges.MOST}) {
                Edges.refuses(Scenes::worn, Edges.INDEX, "line(" + line + ", " + what + ")", x -> x.line(line, what));
            }
        }
        Edges.refuses(ScratchMap::new, Edges.INDEX, "line(0, 0) of a new object", x -> x.line(0, 0));
        Edges.refuses(ScratchMap::new, Edges.INDEX, "line(0, 6) of a new object", x -> x.line(0, 6));
        ScratchMap y = Scenes.withSpots(0, 0, 0, 1, 0, 2);
        y.heal(0, 0);
        Due.is("line(0, 0) that is gone", Due.outcome(() -> y.line(0, 0)), Edges.INDEX);
    }

    private static void noSuchLineProperty() {
        for (int what : new int[] {-1, 6, 7, Edges.LEAST, Edges.MOST}) {
            Edges.refuses(Scenes::worn, Edges.ARGUMENT, "line(0, " + what + ")", x -> x.line(0, what));
            Edges.refuses(Scenes::jammed, Edges.ARGUMENT, "line(10, " + what + ")", x -> x.line(10, what));
        }
    }

    // ---- count

    private static void count(Sentences s) {
        s.hold(17, "Returns a number.", LooksEdges::countsOfNewAndWorn);
        s.hold(17, "`what`: 0: spots;", () -> counts(0, 12, Scenes.jammed()));
        s.hold(17, "1: lines;", LooksEdges::countLines);
        s.hold(17, "2: avoided cells;", LooksEdges::countAvoided);
        s.hold(17, "3: blocks with values;", LooksEdges::countValues);
        s.hold(17, "4: blocks that are in spare cells;", LooksEdges::countInSpares);
        s.hold(17, "5: blocks that are in cells that are not good;", LooksEdges::countInBadCells);
        s.hold(17, "6: spare cells that are good and not taken;", LooksEdges::countFreeSpares);
        s.hold(17, "7: values that were lost so far;", LooksEdges::countLost);
        s.hold(17, "8: moves so far, by tidying and by writing (from one cell to another);", LooksEdges::countMoves);
        s.hold(17, "9: saved states", LooksEdges::countSaved);
        s.hold(17, "Returns the number.", LooksEdges::countsOfJam);
        s.hold(17, "Throws `IllegalArgumentException` if what is not 0 to 9", LooksEdges::noSuchCount);
    }

    private static void counts(int what, int due, ScratchMap x) {
        Due.is("count(" + what + ")", x.count(what), due);
    }

    private static void allCounts(ScratchMap x, int... due) {
        for (int what = 0; what < 10; what++) {
            counts(what, due[what], x);
        }
    }

    private static void countsOfNewAndWorn() {
        allCounts(new ScratchMap(), 0, 0, 0, 0, 0, 0, 96, 0, 0, 0);
        allCounts(Scenes.worn(), 5, 1, 3, 92, 2, 2, 93, 4, 1, 6);
    }

    private static void countsOfJam() {
        allCounts(Scenes.withoutRoom(), 12, 11, 98, 6, 4, 1, 0, 0, 0, 6);
    }

    private static void countLines() {
        counts(1, 0, Scenes.withSpots(0, 0, 0, 1));
        counts(1, 1, Scenes.withSpots(0, 0, 0, 1, 0, 2));
        counts(1, 1, Scenes.withSpots(0, 0, 0, 1, 0, 2, 0, 3));
        counts(1, 11, Scenes.jammed());
        counts(1, 17, Scenes.withManyLines());
    }

    private static void countAvoided() {
        counts(2, 0, Scenes.withSpots(0, 0));
        counts(2, 2, Scenes.withSpots(0, 0, 0, 1, 0, 2));
        counts(2, 8, Scenes.withSpots(9, 9, 9, 10, 9, 11, 7, 12, 8, 12, 10, 12));
    }

    private static void countValues() {
        ScratchMap x = new ScratchMap();
        x.write(0, 0);
        x.write(0, 1);
        x.write(479, 0);
        counts(3, 2, x);
        x.drop(0);
        counts(3, 1, x);
        x.fail(19, 23);
        counts(3, 0, x);
        counts(3, 468, Scenes.crowded());
    }

    private static void countInSpares() {
        ScratchMap x = Scenes.withSpots(0, 0, 19, 23);
        x.write(478, 1);
        counts(4, 0, x);
        x.write(479, 1);
        x.write(0, 1);
        counts(4, 2, x);
        Scenes.failAll(x, 20, 2, 20, 3, 20, 4);
        counts(4, 2, x);
        counts(5, 2, x);
        counts(4, 4, Scenes.withoutRoom());
    }

    private static void countInBadCells() {
        ScratchMap x = new ScratchMap();
        x.fill(0, 24, 1);
        Scenes.failAll(x, 0, 3, 0, 4);
        counts(5, 0, x);
        x.fail(0, 5);
        counts(5, 4, x);
        x.fail(0, 6);
        counts(5, 4, x);
        Scenes.failAll(x, 20, 0, 20, 1, 20, 2);
        counts(5, 4, x);
        x.tidy(99);
        counts(5, 0, x);
        x.heal(20, 2);
        x.fail(20, 3);
        counts(5, 1, x);
    }

    private static void countFreeSpares() {
        counts(6, 96, Scenes.withSpots(19, 23));
        counts(6, 95, Scenes.withSpots(20, 0));
        counts(6, 95, Scenes.withSpots(23, 23));
        counts(6, 91, Scenes.withSpots(23, 23, 23, 22, 23, 21));
        counts(6, 4, Scenes.jammed());
        counts(6, 0, Scenes.withoutRoom());
        counts(6, 93, Scenes.withSpots(17, 9, 18, 9, 16, 9, 20, 9));
    }

    private static void countLost() {
        ScratchMap x = new ScratchMap();
        x.fail(0, 0);
        counts(7, 0, x);
        x.write(0, 0);
        x.write(479, 0);
        x.fail(20, 0);
        counts(7, 1, x);
        x.fail(19, 23);
        counts(7, 2, x);
        x.write(5, 1);
        x.drop(5);
        x.fail(0, 5);
        counts(7, 2, x);
        x.undo();
        x.undo();
        x.undo();
        counts(7, 2, x);
        x.undo();
        counts(7, 1, x);
    }

    private static void countMoves() {
        ScratchMap x = Scenes.withSpots(0, 0);
        x.write(0, 1);
        counts(8, 0, x);
        x.write(0, 2);
        counts(8, 0, x);
        Scenes.failAll(x, 20, 1, 20, 2, 20, 3);
        x.write(0, 3);
        counts(8, 1, x);
        x.heal(0, 0);
        x.write(0, 4);
        counts(8, 1, x);
        x.tidy(9);
        counts(8, 2, x);
        x.drop(0);
        x.write(0, 5);
        counts(8, 2, x);
        Scenes.failAll(x, 0, 1, 0, 2, 0, 3);
        x.fill(0, 1, 6);
        counts(8, 3, x);
    }

    private static void countSaved() {
        ScratchMap x = new ScratchMap();
        for (int calls = 1; calls <= 8; calls++) {
            x.drop(0);
            counts(9, calls < 6 ? calls : 6, x);
        }
        x.undo();
        counts(9, 5, x);
    }

    private static void noSuchCount() {
        for (int what : new int[] {-1, 10, 11, Edges.LEAST, Edges.MOST}) {
            Edges.refuses(Scenes::worn, Edges.ARGUMENT, "count(" + what + ")", x -> x.count(what));
        }
    }

    // ---- setting

    private static ScratchMap setTo(int setting, int value) {
        ScratchMap x = new ScratchMap();
        x.set(setting, value);
        return x;
    }

    private static void settings() {
        ScratchMap x = new ScratchMap();
        Due.is("setting(0)", x.setting(0), 3);
        Due.is("setting(2)", x.setting(2), 2);
        Edges.refuses(Scenes::worn, Edges.INDEX, "setting(-1)", y -> y.setting(-1));
        Edges.refuses(Scenes::worn, Edges.INDEX, "setting(3)", y -> y.setting(3));
    }

    private static void settingReturns() {
        int[][] ends = {{0, 3}, {0, 6}, {1, 1}, {1, 8}, {2, 0}, {2, 6}};
        for (int[] end : ends) {
            ScratchMap x = setTo(end[0], end[1]);
            for (int setting = 0; setting < 3; setting++) {
                int first = setting == 2 ? 2 : 3;
                Due.is("setting(" + setting + ") after set(" + end[0] + ", " + end[1] + ")", x.setting(setting), setting == end[0] ? end[1] : first);
            }
        }
    }

    private static void noSuchSetting() {
        for (int setting : new int[] {-1, 3, 4, Edges.LEAST, Edges.MOST}) {
            Edges.refuses(Scenes::worn, Edges.INDEX, "setting(" + setting + ")", x -> x.setting(setting));
        }
    }
}
