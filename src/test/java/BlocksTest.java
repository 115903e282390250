/** Promises 1 to 4, 15 and 22: a new object, write, fill, drop, block, find. */
public final class BlocksTest {
    private static final Class<IndexOutOfBoundsException> NO_BLOCK = IndexOutOfBoundsException.class;
    private static final Class<IllegalArgumentException> BAD = IllegalArgumentException.class;
    private static final Class<IllegalStateException> CANNOT = IllegalStateException.class;

    private BlocksTest() {
    }

    public static void main(String[] args) {
        newObject();
        writeAtHome();
        writeToSpares();
        writeStaysInGoodCells();
        writeLeavesBadCells();
        writeWithoutRoom();
        writeRefuses();
        fill();
        fillStops();
        fillRefuses();
        drop();
        block();
        find();
        Due.end();
    }

    private static void newObject() {
        ScratchMap x = new ScratchMap();
        for (int what = 0; what < 10; what++) {
            Due.is("new: count(" + what + ")", x.count(what), what == 6 ? 96 : 0);
        }
        Due.is("new: setting(0)", x.setting(0), 3);
        Due.is("new: setting(1)", x.setting(1), 3);
        Due.is("new: setting(2)", x.setting(2), 2);
        for (int block = 0; block < 480; block++) {
            Due.is("new: block(" + block + ", 0)", x.block(block, 0), -1);
            Due.is("new: block(" + block + ", 1)", x.block(block, 1), -1);
        }
        for (int cell = 0; cell < 576; cell++) {
            Due.is("new: cell " + cell + " good", x.cell(cell / 24, cell % 24, 0), 0);
            Due.is("new: cell " + cell + " taken", x.cell(cell / 24, cell % 24, 1), -1);
        }
        Due.is("new: goodShare()", x.goodShare(), 1.0);
        Due.is("new: firstError()", x.firstError(), 0);
        Due.is("new: clearBuffer()", x.clearBuffer(), 0);
    }

    private static void writeAtHome() {
        ScratchMap x = new ScratchMap();
        Due.is("write(0, 0)", x.write(0, 0), 0);
        Due.is("write(479, 999)", x.write(479, 999), 479);
        Due.is("write(30, 1)", x.write(30, 1), 30);
        Due.is("write(30, 2) again", x.write(30, 2), 30);
        Due.is("value of 0", x.block(0, 0), 0);
        Due.is("value of 479", x.block(479, 0), 999);
        Due.is("value of 30", x.block(30, 0), 2);
        Due.is("values", x.count(3), 3);
        Due.is("moves", x.count(8), 0);
        Due.is("saved", x.count(9), 4);
        Due.is("cell (1, 6)", x.cell(1, 6, 1), 30);
    }

    private static void writeToSpares() {
        ScratchMap x = Scenes.withSpots(0, 0, 0, 1, 0, 2);
        Due.is("write(3, 5), home avoided", x.write(3, 5), 480);
        Due.is("write(4, 6), home avoided", x.write(4, 6), 481);
        Due.is("write(0, 7), home is a spot", x.write(0, 7), 482);
        Due.is("write(5, 8), home good", x.write(5, 8), 5);
        Due.is("moves by first writing", x.count(8), 0);
        Due.is("in spare cells", x.count(4), 3);
        x.drop(4);
        Due.is("write(1, 9) to the lowest spare", x.write(1, 9), 481);
        x.fail(20, 3);
        Due.is("write(2, 9) beyond the spot", x.write(2, 9), 484);
    }

    private static void writeStaysInGoodCells() {
        ScratchMap x = Scenes.withSpots(0, 0, 0, 1, 0, 2);
        x.write(3, 5);
        x.heal(0, 1);
        Due.is("home is good again", x.cell(0, 3, 0), 0);
        Due.is("write(3, 6) stays in the spare cell", x.write(3, 6), 480);
        Due.is("its value", x.block(3, 0), 6);
        Due.is("no move", x.count(8), 0);
        Due.is("home not taken", x.cell(0, 3, 1), -1);
    }

    private static void writeLeavesBadCells() {
        ScratchMap x = new ScratchMap();
        x.write(3, 5);
        Scenes.failAll(x, 0, 0, 0, 1, 0, 2);
        Due.is("in an avoided cell", x.count(5), 1);
        Due.is("write(3, 6) leaves it", x.write(3, 6), 480);
        Due.is("a move", x.count(8), 1);
        Due.is("the cell where it was", x.cell(0, 3, 1), -1);
        Due.is("the cell where it is", x.cell(20, 0, 1), 3);
        Scenes.failAll(x, 20, 1, 20, 2, 20, 3);
        Due.is("its spare cell is avoided", x.cell(20, 0, 0), 1);
        Due.is("write(3, 7) to another spare", x.write(3, 7), 486);
        Due.is("two moves", x.count(8), 2);
        Due.is("nothing is taken twice", x.count(4), 1);
        Scenes.failAll(x, 20, 5, 20, 8);
        x.heal(0, 1);
        Due.is("avoided again", x.block(3, 1) == 486 && x.count(5) == 1, true);
        Due.is("write(3, 8) comes home", x.write(3, 8), 3);
        Due.is("three moves", x.count(8), 3);
        Due.is("no spare is taken", x.count(4), 0);
    }

    private static void writeWithoutRoom() {
        ScratchMap x = new ScratchMap();
        x.write(384, 7);
        Scenes.jam(x);
        Due.is("lines of the jam", x.count(1), 11);
        Due.is("free spares of the jam", x.count(6), 4);
        Due.is("write(336, 1)", x.write(336, 1), 503);
        Due.is("write(344, 2)", x.write(344, 2), 527);
        Due.is("write(352, 3)", x.write(352, 3), 551);
        Due.is("block(360, 3)", x.block(360, 3), 575);
        Due.is("write(360, 4)", x.write(360, 4), 575);
        Due.is("free spares", x.count(6), 0);
        Due.refuses(x, CANNOT, "write(368, 5)", () -> x.write(368, 5));
        Due.refuses(x, CANNOT, "write(384, 5), which has a value", () -> x.write(384, 5));
        Due.is("it keeps its value", x.block(384, 0), 7);
        Due.is("block(384, 3)", x.block(384, 3), -1);
        Due.is("block(368, 3)", x.block(368, 3), -1);
        Due.refuses(x, BAD, "write(368, 1000)", () -> x.write(368, 1000));
        Due.is("write(360, 6), which has a spare", x.write(360, 6), 575);
    }

    private static void writeRefuses() {
        ScratchMap x = new ScratchMap();
        x.write(1, 1);
        for (int block : new int[] {-1, 480, 575, Integer.MIN_VALUE, Integer.MAX_VALUE}) {
            Due.refuses(x, NO_BLOCK, "write(" + block + ", 0)", () -> x.write(block, 0));
            Due.refuses(x, NO_BLOCK, "write(" + block + ", -1)", () -> x.write(block, -1));
        }
        for (int value : new int[] {-1, 1000, Integer.MIN_VALUE, Integer.MAX_VALUE}) {
            Due.refuses(x, BAD, "write(1, " + value + ")", () -> x.write(1, value));
        }
    }

    private static void fill() {
        ScratchMap x = new ScratchMap();
        Due.is("fill(432, 48, 999)", x.fill(432, 48, 999), 48);
        Due.is("fill(0, 1, 0)", x.fill(0, 1, 0), 1);
        Due.is("fill(479, 1, 5)", x.fill(479, 1, 5), 1);
        Due.is("values", x.count(3), 49);
        Due.is("value of 478", x.block(478, 0), 999);
        Due.is("value of 479", x.block(479, 0), 5);
        Due.is("value of 431", x.block(431, 0), -1);
        Due.is("value of 1", x.block(1, 0), -1);
        Due.is("saved, one a call", x.count(9), 3);
        x.undo();
        x.undo();
        Due.is("two undone", x.count(3), 48);
        Scenes.failAll(x, 18, 0, 18, 1, 18, 2);
        Due.is("fill(432, 6, 1)", x.fill(432, 6, 1), 6);
        Due.is("432 is in a spare", x.block(432, 1), 480);
        Due.is("436 is in a spare", x.block(436, 1), 484);
        Due.is("437 is at home", x.block(437, 1), 437);
        Due.is("lost by the spots", x.count(7), 3);
        Due.is("moves: 435 and 436", x.count(8), 2);
    }

    private static void fillStops() {
        ScratchMap x = Scenes.jammed();
        Due.is("fill(336, 48, 7) up to 368", x.fill(336, 48, 7), 32);
        Due.is("value of 367", x.block(367, 0), 7);
        Due.is("value of 368", x.block(368, 0), -1);
        Due.is("value of 369", x.block(369, 0), -1);
        Due.is("where 360 is", x.block(360, 1), 575);
        Due.is("undo()", x.undo(), 5);
        Due.is("undone at once", x.count(3), 0);
        x.fill(336, 48, 7);
        String before = Picture.withoutSavedStates(x);
        Due.is("fill(368, 3, 1) writes none", x.fill(368, 3, 1), 0);
        Due.is("fill(368, 3, 1) changes nothing", Picture.withoutSavedStates(x), before);
        x.undo();
        Due.is("but was saved", Picture.withoutSavedStates(x), before);
    }

    private static void fillRefuses() {
        ScratchMap x = new ScratchMap();
        x.write(1, 1);
        int[][] noBlocks = {{-1, 1, 0}, {480, 1, 0}, {479, 2, 0}, {433, 48, 0}, {433, 48, -1}, {0, 481, 0},
            {1, Integer.MAX_VALUE, 0}, {-1, 0, -1}, {Integer.MIN_VALUE, 1, 1}, {Integer.MAX_VALUE, 1, 1},
            {Integer.MAX_VALUE, Integer.MAX_VALUE, 1}, {-5, Integer.MIN_VALUE, 1}};
        for (int[] a : noBlocks) {
            Due.refuses(x, NO_BLOCK, "fill(" + a[0] + ", " + a[1] + ", " + a[2] + ")", () -> x.fill(a[0], a[1], a[2]));
        }
        int[][] bad = {{0, 0, 0}, {0, 49, 0}, {0, 480, 0}, {0, -1, 0}, {479, Integer.MIN_VALUE, 0}, {0, 1, -1},
            {0, 1, 1000}, {432, 48, 1000}, {432, 48, Integer.MAX_VALUE}};
        for (int[] a : bad) {
            Due.refuses(x, BAD, "fill(" + a[0] + ", " + a[1] + ", " + a[2] + ")", () -> x.fill(a[0], a[1], a[2]));
        }
    }

    private static void drop() {
        ScratchMap x = Scenes.withSpots(0, 0, 0, 1, 0, 2);
        x.write(3, 0);
        x.write(479, 41);
        Due.is("drop(3)", x.drop(3), 0);
        Due.is("drop(3) again", x.drop(3), -1);
        Due.is("drop(479)", x.drop(479), 41);
        Due.is("drop(0), never written", x.drop(0), -1);
        Due.is("values", x.count(3), 0);
        Due.is("its spare is free", x.cell(20, 0, 1), -1);
        Due.is("nothing is lost by it", x.count(7), 0);
        Due.is("drop(0) is saved too", x.undo(), 5);
        Due.is("after its undo", x.block(479, 0), -1);
        x.undo();
        Due.is("after undo of drop(479)", x.block(479, 0), 41);
        Due.refuses(x, NO_BLOCK, "drop(-1)", () -> x.drop(-1));
        Due.refuses(x, NO_BLOCK, "drop(480)", () -> x.drop(480));
        Due.refuses(x, NO_BLOCK, "drop(MIN)", () -> x.drop(Integer.MIN_VALUE));
    }

    private static void block() {
        ScratchMap x = Scenes.withSpots(0, 0, 0, 1, 0, 2);
        x.write(3, 33);
        x.write(70, 44);
        int[][] due = {{0, -1, -1, 0, 481}, {3, 33, 480, 1, 480}, {4, -1, -1, 0, 481}, {5, -1, -1, 0, 5}, {70, 44, 70, 0, 70}, {479, -1, -1, 0, 479}};
        for (int[] row : due) {
            for (int what = 0; what < 4; what++) {
                Due.is("block(" + row[0] + ", " + what + ")", x.block(row[0], what), row[what + 1]);
            }
        }
        x.heal(0, 1);
        Due.is("block(3, 3) stays in its spare", x.block(3, 3), 480);
        for (int block : new int[] {-1, 480, Integer.MIN_VALUE, Integer.MAX_VALUE}) {
            Due.refuses(x, NO_BLOCK, "block(" + block + ", 0)", () -> x.block(block, 0));
            Due.refuses(x, NO_BLOCK, "block(" + block + ", 4)", () -> x.block(block, 4));
        }
        for (int what : new int[] {-1, 4, Integer.MIN_VALUE, Integer.MAX_VALUE}) {
            Due.refuses(x, BAD, "block(0, " + what + ")", () -> x.block(0, what));
        }
    }

    private static void find() {
        ScratchMap x = new ScratchMap();
        x.write(90, 0);
        x.write(80, 999);
        x.write(20, 5);
        x.write(10, 5);
        Due.is("find(0)", x.find(0), 90);
        Due.is("find(999)", x.find(999), 80);
        Due.is("find(5), the lowest", x.find(5), 10);
        Due.is("find(6)", x.find(6), -1);
        x.drop(10);
        Due.is("find(5) after drop(10)", x.find(5), 20);
        x.fail(0, 20);
        Due.is("find(5), lost", x.find(5), -1);
        x.write(0, 999);
        x.write(479, 7);
        Due.is("find(999), the first block", x.find(999), 0);
        Due.is("find(7), the last block", x.find(7), 479);
        Due.refuses(x, BAD, "find(-1)", () -> x.find(-1));
        Due.refuses(x, BAD, "find(1000)", () -> x.find(1000));
        Due.refuses(x, BAD, "find(MIN)", () -> x.find(Integer.MIN_VALUE));
    }
}
