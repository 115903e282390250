/** The sentences of the promises 1 to 4: a new object, write, fill, drop. */
final class BlocksEdges {
    private static final int[] NO_BLOCKS = {-1, 480, 481, 575, Edges.LEAST, Edges.MOST};
    private static final int[] NO_VALUES = {-1, 1000, Edges.LEAST, Edges.MOST};

    private BlocksEdges() {
    }

    static void all(Sentences s) {
        s.hold(1, "Creates a drive without spots and values, with an empty buffer.", BlocksEdges::newObject);
        write(s);
        fill(s);
        drop(s);
    }

    private static void newObject() {
        ScratchMap other = Scenes.worn();
        ScratchMap x = new ScratchMap();
        for (int what = 0; what < 10; what++) {
            Due.is("count(" + what + ")", x.count(what), what == 6 ? 96 : 0);
        }
        Due.is("clearBuffer()", x.clearBuffer(), 0);
        Due.is("firstError()", x.firstError(), 0);
        Due.is("find(0)", x.find(0), -1);
        Due.is("worst()", x.worst(), -1);
        Due.is("untidy()", x.untidy(), 0);
        Due.is("goodShare()", x.goodShare(), 1.0);
        Due.is("undo()", Due.outcome(x::undo), Edges.STATE);
        Due.is("read()", Due.outcome(x::read), Edges.ARGUMENT);
        Due.is("line(0, 0)", Due.outcome(() -> x.line(0, 0)), Edges.INDEX);
        Due.is("heal(0, 0)", Due.outcome(() -> x.heal(0, 0)), Edges.STATE);
        Due.is("digest()", x.digest(), new Model().digest());
        Due.is("another object is not touched", other.digest(), Scenes.worn().digest());
    }

    // ---- write

    private static void write(Sentences s) {
        s.hold(2, "Writes a block. Undoable.", BlocksEdges::writeIsUndoable);
        s.hold(2, "`block`: 0 to 479", BlocksEdges::writeBlocks);
        s.hold(2, "`value`: 0 to 999", BlocksEdges::writeValues);
        s.hold(2, "Returns the cell where it is then.", BlocksEdges::writeReturns);
        s.hold(2, "Throws `IndexOutOfBoundsException` if there is no such block", BlocksEdges::writeNoSuchBlock);
        s.hold(2, "Throws `IllegalArgumentException` if value is out of range", BlocksEdges::writeNoSuchValue);
        s.hold(2, "Throws `IllegalStateException` if it cannot be written", BlocksEdges::writeCannot);
    }

    private static void writeIsUndoable() {
        Edges.undoable("write(100, 5), a new value", x -> x.write(100, 5));
        Edges.undoable("write(10, 5), another value", x -> x.write(10, 5));
        Edges.undoable("write(10, 7), the same value", x -> x.write(10, 7));
        Edges.undoable("write(4, 5), a move", x -> x.write(4, 5));
    }

    private static void writeBlocks() {
        ScratchMap x = new ScratchMap();
        Due.is("write(0, 3)", x.write(0, 3), 0);
        Due.is("write(479, 4)", x.write(479, 4), 479);
        Due.is("block(0, 0)", x.block(0, 0), 3);
        Due.is("block(479, 0)", x.block(479, 0), 4);
        Due.is("blocks with values", x.count(3), 2);
        for (int block : NO_BLOCKS) {
            Edges.refuses(Scenes::worn, Edges.INDEX, "write(" + block + ", 3)", y -> y.write(block, 3));
        }
    }

    private static void writeValues() {
        ScratchMap x = new ScratchMap();
        x.write(7, 0);
        Due.is("block(7, 0), written with 0", x.block(7, 0), 0);
        x.write(7, 999);
        Due.is("block(7, 0), written with 999", x.block(7, 0), 999);
        for (int value : NO_VALUES) {
            Edges.refuses(Scenes::worn, Edges.ARGUMENT, "write(7, " + value + ")", y -> y.write(7, value));
        }
    }

    private static void writeReturns() {
        ScratchMap x = Scenes.jammed();
        int[] blocks = {0, 336, 344, 352, 360, 479, 336};
        int[] cells = {0, 503, 527, 551, 575, 479, 503};
        for (int i = 0; i < blocks.length; i++) {
            Due.is("write(" + blocks[i] + ", 1)", x.write(blocks[i], 1), cells[i]);
            Due.is("block(" + blocks[i] + ", 1) then", x.block(blocks[i], 1), cells[i]);
        }
    }

    private static void writeNoSuchBlock() {
        for (int block : NO_BLOCKS) {
            for (int value : NO_VALUES) {
                Edges.refuses(Scenes::worn, Edges.INDEX, "write(" + block + ", " + value + ")", y -> y.write(block, value));
            }
            Edges.refuses(Scenes::withoutRoom, Edges.INDEX, "write(" + block + ", 1) without room", y -> y.write(block, 1));
        }
    }

    private static void writeNoSuchValue() {
        for (int value : NO_VALUES) {
            Edges.refuses(Scenes::worn, Edges.ARGUMENT, "write(479, " + value + ")", y -> y.write(479, value));
            Edges.refuses(Scenes::withoutRoom, Edges.ARGUMENT, "write(368, " + value + ") without room", y -> y.write(368, value));
            Edges.refuses(Scenes::withoutRoom, Edges.ARGUMENT, "write(384, " + value + ") without room", y -> y.write(384, value));
        }
    }

    private static void writeCannot() {
        ScratchMap x = Scenes.withoutRoom();
        x.undo();
        Due.is("one spare is free", x.count(6), 1);
        Due.is("write(368, 1), the last that can be written", x.write(368, 1), 575);
        Due.is("write(376, 1), the first that can't", Due.outcome(() -> x.write(376, 1)), Edges.STATE);
        Edges.refuses(Scenes::withoutRoom, Edges.STATE, "write(376, 0)", y -> y.write(376, 0));
        Edges.refuses(Scenes::withoutRoom, Edges.STATE, "write(384, 999), which has a value", y -> y.write(384, 999));
    }

    // ---- fill

    private static void fill(Sentences s) {
        s.hold(3, "Writes the same value to some blocks side by side, as write() does, one after the other, up to the first one that cannot be written.", BlocksEdges::fillWrites);
        s.hold(3, "Undoable, as one call.", BlocksEdges::fillIsUndoable);
        s.hold(3, "`first`: the first block, 0 to 479", BlocksEdges::fillFirst);
        s.hold(3, "`many`: 1 to 48, how many", BlocksEdges::fillMany);
        s.hold(3, "`value`: 0 to 999", BlocksEdges::fillValues);
        s.hold(3, "Returns how many are written.", BlocksEdges::fillReturns);
        s.hold(3, "Throws `IndexOutOfBoundsException` if there is no such block, or they would go beyond the block 479", BlocksEdges::fillNoSuchBlock);
        s.hold(3, "Throws `IllegalArgumentException` if many or value is out of range", BlocksEdges::fillNoSuchNumber);
    }

    private static void fillWrites() {
        ScratchMap x = Scenes.withSpots(0, 0, 0, 1, 0, 2);
        x.write(4, 1);
        Due.is("fill(0, 7, 6)", x.fill(0, 7, 6), 7);
        int[] cells = {481, 482, 483, 484, 480, 5, 6, -1};
        for (int block = 0; block < cells.length; block++) {
            Due.is("block(" + block + ", 1)", x.block(block, 1), cells[block]);
            Due.is("block(" + block + ", 0)", x.block(block, 0), block < 7 ? 6 : -1);
        }
        ScratchMap y = Scenes.withoutRoom();
        Due.is("fill(366, 4, 6), as 368 cannot be written", y.fill(366, 4, 6), 2);
        Due.is("block(367, 0)", y.block(367, 0), 6);
        Due.is("block(368, 0)", y.block(368, 0), -1);
        Due.is("block(369, 0), though it could be", y.block(369, 0) * 1000 + y.block(369, 3), -1000 + 369);
        ScratchMap z = Scenes.withoutRoom();
        Due.is("fill(383, 3, 6), as 384 cannot leave its bad cell", z.fill(383, 3, 6), 1);
        Due.is("block(384, 0)", z.block(384, 0), 7);
    }

    private static void fillIsUndoable() {
        Edges.undoable("fill(40, 48, 3)", x -> x.fill(40, 48, 3));
        Edges.undoable("fill(3, 3, 7), with moves", x -> x.fill(3, 3, 7));
        Edges.undoable("fill(10, 5, 7), nothing new", x -> x.fill(10, 5, 7));
        Edges.undoable(Scenes::withoutRoom, "fill(366, 48, 1), up to 376", x -> x.fill(366, 48, 1));
        Edges.undoable(Scenes::withoutRoomForLong, "fill(376, 2, 1), none written", x -> x.fill(376, 2, 1));
    }

    private static void fillFirst() {
        ScratchMap x = new ScratchMap();
        Due.is("fill(0, 1, 5)", x.fill(0, 1, 5), 1);
        Due.is("fill(479, 1, 5)", x.fill(479, 1, 5), 1);
        Due.is("block(0, 0)", x.block(0, 0), 5);
        Due.is("block(479, 0)", x.block(479, 0), 5);
        Due.is("blocks with values", x.count(3), 2);
        for (int first : NO_BLOCKS) {
            Edges.refuses(Scenes::worn, Edges.INDEX, "fill(" + first + ", 1, 5)", y -> y.fill(first, 1, 5));
        }
    }

    private static void fillMany() {
        ScratchMap x = new ScratchMap();
        Due.is("fill(100, 1, 5)", x.fill(100, 1, 5), 1);
        Due.is("blocks with values", x.count(3), 1);
        Due.is("fill(200, 48, 5)", x.fill(200, 48, 5), 48);
        Due.is("blocks with values then", x.count(3), 49);
        Due.is("the last of them", x.block(247, 0) + x.block(248, 0), 5 - 1);
        for (int many : new int[] {0, -1, 49, 50, Edges.LEAST}) {
            Edges.refuses(Scenes::worn, Edges.ARGUMENT, "fill(100, " + many + ", 5)", y -> y.fill(100, many, 5));
        }
    }

    private static void fillValues() {
        ScratchMap x = new ScratchMap();
        x.fill(7, 2, 0);
        Due.is("block(8, 0), filled with 0", x.block(8, 0), 0);
        x.fill(7, 2, 999);
        Due.is("block(8, 0), filled with 999", x.block(8, 0), 999);
        for (int value : NO_VALUES) {
            Edges.refuses(Scenes::worn, Edges.ARGUMENT, "fill(7, 2, " + value + ")", y -> y.fill(7, 2, value));
        }
    }

    private static void fillReturns() {
        ScratchMap x = Scenes.withoutRoom();
        Due.is("fill(368, 48, 1), none", x.fill(368, 48, 1), 0);
        Due.is("fill(367, 48, 1), one", x.fill(367, 48, 1), 1);
        Due.is("fill(320, 48, 1), all", x.fill(320, 48, 1), 48);
        Due.is("fill(321, 48, 1), all but the last", x.fill(321, 48, 1), 47);
        Due.is("fill(0, 1, 1)", x.fill(0, 1, 1), 1);
    }

    private static void fillNoSuchBlock() {
        ScratchMap x = new ScratchMap();
        Due.is("fill(432, 48, 5), up to 479", x.fill(432, 48, 5), 48);
        Due.is("fill(478, 2, 5), up to 479", x.fill(478, 2, 5), 2);
        int[][] beyond = {{433, 48}, {479, 2}, {478, 3}, {440, 41}, {432, 49}, {479, Edges.MOST}, {0, Edges.MOST}, {0, 481},
            {-1, 48}, {-1, 0}, {-1, 49}, {480, 0}, {480, -1}, {480, Edges.LEAST}, {Edges.LEAST, Edges.LEAST}, {Edges.MOST, Edges.MOST}};
        for (int[] a : beyond) {
            for (int value : new int[] {0, -1, 1000}) {
                Edges.refuses(Scenes::worn, Edges.INDEX, "fill(" + a[0] + ", " + a[1] + ", " + value + ")", y -> y.fill(a[0], a[1], value));
            }
        }
        Edges.refuses(Scenes::withoutRoom, Edges.INDEX, "fill(433, 48, 5) without room", y -> y.fill(433, 48, 5));
    }

    private static void fillNoSuchNumber() {
        int[][] bad = {{0, 0, 5}, {0, 49, 5}, {431, 49, 5}, {0, 480, 5}, {479, 0, 5}, {479, -1, 5}, {0, Edges.LEAST, 5}, {0, 0, 1000},
            {432, 48, 1000}, {432, 48, -1}, {0, 1, Edges.MOST}, {0, 1, Edges.LEAST}};
        for (int[] a : bad) {
            Edges.refuses(Scenes::worn, Edges.ARGUMENT, "fill(" + a[0] + ", " + a[1] + ", " + a[2] + ")", y -> y.fill(a[0], a[1], a[2]));
        }
        Edges.refuses(Scenes::withoutRoom, Edges.ARGUMENT, "fill(368, 1, 1000) without room", y -> y.fill(368, 1, 1000));
    }

    // ---- drop

    private static void drop(Sentences s) {
        s.hold(4, "Drops the value of a block. Undoable.", BlocksEdges::dropIsUndoable);
        s.hold(4, "`block`: 0 to 479", BlocksEdges::dropBlocks);
        s.hold(4, "Returns the value; NONE if it had none.", BlocksEdges::dropReturns);
        s.hold(4, "Throws `IndexOutOfBoundsException` if there is no such block", BlocksEdges::dropNoSuchBlock);
    }

    private static void dropIsUndoable() {
        Edges.undoable("drop(10), at home", x -> x.drop(10));
        Edges.undoable("drop(3), in a spare", x -> x.drop(3));
        Edges.undoable("drop(4), in an avoided cell", x -> x.drop(4));
        Edges.undoable("drop(100), which has none", x -> x.drop(100));
        ScratchMap x = Scenes.worn();
        x.drop(3);
        Due.is("block(3, 0)", x.block(3, 0), -1);
        Due.is("block(3, 1)", x.block(3, 1), -1);
        Due.is("cell(20, 0, 1)", x.cell(20, 0, 1), -1);
        Due.is("it is not lost", x.count(7), Scenes.worn().count(7));
    }

    private static void dropBlocks() {
        ScratchMap x = new ScratchMap();
        x.write(0, 3);
        x.write(479, 4);
        Due.is("drop(0)", x.drop(0), 3);
        Due.is("drop(479)", x.drop(479), 4);
        Due.is("blocks with values", x.count(3), 0);
    }

    private static void dropReturns() {
        ScratchMap x = new ScratchMap();
        Due.is("drop(5), never written", x.drop(5), -1);
        x.write(5, 0);
        Due.is("drop(5) with 0", x.drop(5), 0);
        Due.is("drop(5) again", x.drop(5), -1);
        x.write(5, 999);
        Due.is("drop(5) with 999", x.drop(5), 999);
        x.write(5, 8);
        x.fail(0, 5);
        Due.is("drop(5), lost", x.drop(5), -1);
        Due.is("an empty one is saved too", x.count(9), 6);
    }

    private static void dropNoSuchBlock() {
        for (int block : NO_BLOCKS) {
            Edges.refuses(Scenes::worn, Edges.INDEX, "drop(" + block + ")", y -> y.drop(block));
        }
    }
}
