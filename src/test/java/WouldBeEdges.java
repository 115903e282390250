/** The sentences of the promises 19 to 24: ifFailed, worst, untidy, find, goodShare, digest. */
final class WouldBeEdges {
    private static final int[] NO_TRACKS = {-1, 24, 25, Edges.LEAST, Edges.MOST};

    private WouldBeEdges() {
    }

    static void all(Sentences s) {
        s.hold(0, "Ahead of the calls `ifFailed`, `worst`, `untidy`, `find`, `goodShare`, `digest` the interface says: ---- what would be; nothing is changed.",
            WouldBeEdges::nothingIsChanged);
        ifFailed(s);
        s.hold(20, "Finds the cell that endangers most.", WouldBeEdges::worstAfterEachChange);
        s.hold(20, "Returns the number of the avoided cell which most lines have as a cell,", WouldBeEdges::worstOfMostLines);
        s.hold(20, "of several the lowest one;", WouldBeEdges::worstIsTheLowest);
        s.hold(20, "NONE if no cell is avoided.", WouldBeEdges::worstOfNone);
        s.hold(21, "Tells how many moves tidying up would take.", WouldBeEdges::untidyTellsWhatTidyDoes);
        s.hold(21, "Returns how many moves tidying up (one pass) would take without a bound.", WouldBeEdges::untidyWithoutBound);
        find(s);
        s.hold(23, "Returns how much of the drive is good.", WouldBeEdges::shareOfAll);
        s.hold(23, "Returns the good cells, as a double, divided by 576.", WouldBeEdges::shareOfGoodCells);
        digest(s);
    }

    private static void nothingIsChanged() {
        int[][] cells = {{0, 3}, {0, 10}, {20, 0}, {0, 0}, {10, 10}};
        for (int[] c : cells) {
            for (int what = 0; what < 4; what++) {
                int a = what;
                Edges.changesNothing(Scenes::worn, "ifFailed(" + c[0] + ", " + c[1] + ", " + a + ")", x -> x.ifFailed(c[0], c[1], a));
            }
        }
        Edges.changesNothing(Scenes::worn, "worst()", ScratchMap::worst);
        Edges.changesNothing(Scenes::worn, "untidy()", ScratchMap::untidy);
        Edges.changesNothing(Scenes::inNeedOfManyMoves, "untidy() of many moves", ScratchMap::untidy);
        Edges.changesNothing(Scenes::worn, "find(7)", x -> x.find(7));
        Edges.changesNothing(Scenes::worn, "goodShare()", ScratchMap::goodShare);
        Edges.changesNothing(Scenes::worn, "digest()", ScratchMap::digest);
    }

    // ---- ifFailed

    private static void ifFailed(Sentences s) {
        s.hold(19, "Tells what one more spot would bring.", WouldBeEdges::tellsWhatFailDoes);
        s.hold(19, "`track`: 0 to 23", WouldBeEdges::ifFailedTracks);
        s.hold(19, "`sector`: 0 to 23", WouldBeEdges::ifFailedSectors);
        s.hold(19, "`what`: 0: lines then;", WouldBeEdges::linesThen);
        s.hold(19, "1: avoided cells then;", WouldBeEdges::avoidedThen);
        s.hold(19, "2: 1 if a value would be lost, otherwise 0;", WouldBeEdges::lostThen);
        s.hold(19, "3: blocks in cells that are not good then", WouldBeEdges::inBadCellsThen);
        s.hold(19, "Returns the number;", WouldBeEdges::allNumbersThen);
        s.hold(19, "NONE if fail() would be refused.", WouldBeEdges::refusedThen);
        s.hold(19, "Throws `IllegalArgumentException` if an argument is out of range", WouldBeEdges::noSuchForecast);
    }

    private static void ifFailed(ScratchMap x, int track, int sector, int... due) {
        for (int what = 0; what < 4; what++) {
            Due.is("ifFailed(" + track + ", " + sector + ", " + what + ")", x.ifFailed(track, sector, what), due[what]);
        }
    }

    private static void tellsWhatFailDoes() {
        int[][] cells = {{0, 3}, {0, 5}, {0, 6}, {0, 8}, {1, 1}, {20, 0}, {20, 2}, {20, 3}, {23, 23}, {19, 22}};
        for (int[] c : cells) {
            ScratchMap x = Scenes.worn();
            int lost = x.count(7);
            int[] told = new int[4];
            for (int what = 0; what < 4; what++) {
                told[what] = x.ifFailed(c[0], c[1], what);
            }
            String cell = "fail(" + c[0] + ", " + c[1] + "): ";
            Due.is(cell + "lines", x.fail(c[0], c[1]), told[0]);
            Due.is(cell + "avoided cells", x.count(2), told[1]);
            Due.is(cell + "lost", x.count(7) - lost, told[2]);
            Due.is(cell + "in bad cells", x.count(5), told[3]);
        }
    }

    private static void ifFailedTracks() {
        ScratchMap x = new ScratchMap();
        x.write(7, 1);
        ifFailed(x, 0, 7, 0, 0, 1, 0);
        ifFailed(x, 23, 7, 0, 0, 0, 0);
        for (int track : NO_TRACKS) {
            Edges.refuses(Scenes::worn, Edges.ARGUMENT, "ifFailed(" + track + ", 7, 0)", y -> y.ifFailed(track, 7, 0));
        }
    }

    private static void ifFailedSectors() {
        ScratchMap x = new ScratchMap();
        x.write(0, 1);
        x.write(23, 1);
        ifFailed(x, 0, 0, 0, 0, 1, 0);
        ifFailed(x, 0, 23, 0, 0, 1, 0);
        for (int sector : NO_TRACKS) {
            Edges.refuses(Scenes::worn, Edges.ARGUMENT, "ifFailed(7, " + sector + ", 0)", y -> y.ifFailed(7, sector, 0));
        }
    }

    private static void linesThen() {
        ScratchMap x = Scenes.withSpots(5, 5, 5, 6, 5, 7, 7, 5, 7, 6, 7, 7, 6, 5, 6, 7);
        Due.is("the middle of a square", x.ifFailed(6, 6, 0), 8);
        Due.is("none more", x.ifFailed(20, 3, 0), 4);
        Due.is("one less, as it is too far", x.ifFailed(5, 20, 0), 3);
        Due.is("the last one goes", Scenes.withSpots(0, 0, 0, 1, 0, 2).ifFailed(0, 6, 0), 0);
        Due.is("still near enough", Scenes.withSpots(0, 0, 0, 1, 0, 2).ifFailed(0, 5, 0), 1);
        Due.is("the first one comes", Scenes.withSpots(0, 0, 0, 1).ifFailed(0, 2, 0), 1);
        Due.is("none comes", Scenes.withSpots(0, 0).ifFailed(0, 2, 0), 0);
    }

    private static void avoidedThen() {
        ScratchMap x = Scenes.withSpots(0, 0, 0, 1);
        Due.is("a line comes", x.ifFailed(0, 2, 1), 2);
        Due.is("no line comes", x.ifFailed(3, 2, 1), 0);
        x.fail(0, 2);
        Due.is("an avoided cell fails", x.ifFailed(0, 3, 1), 2);
        Due.is("the farther one", x.ifFailed(0, 4, 1), 3);
        Due.is("the line goes", x.ifFailed(0, 6, 1), 0);
        Due.is("another place", x.ifFailed(9, 6, 1), 2);
    }

    private static void lostThen() {
        ScratchMap x = Scenes.withSpots(0, 0);
        x.write(0, 0);
        x.write(1, 0);
        Due.is("a value 0 at home", x.ifFailed(0, 1, 2), 1);
        Due.is("a value 0 in a spare", x.ifFailed(20, 0, 2), 1);
        Due.is("an empty home", x.ifFailed(0, 2, 2), 0);
        Due.is("an empty spare", x.ifFailed(20, 1, 2), 0);
        x.drop(1);
        Due.is("a dropped value", x.ifFailed(0, 1, 2), 0);
        x.write(2, 1);
        x.fail(0, 2);
        Due.is("not those that were lost before", x.ifFailed(9, 9, 2), 0);
    }

    private static void inBadCellsThen() {
        ScratchMap x = new ScratchMap();
        x.fill(0, 24, 1);
        Scenes.failAll(x, 0, 10, 0, 11);
        Due.is("a line comes", x.ifFailed(0, 12, 3), 4);
        Due.is("a line with a gap comes", x.ifFailed(0, 13, 3), 5);
        Due.is("no line comes", x.ifFailed(1, 12, 3), 0);
        x.fail(0, 12);
        Due.is("one of the bad cells fails", x.ifFailed(0, 13, 3), 4);
        Due.is("elsewhere", x.ifFailed(5, 5, 3), 4);
        Due.is("the line goes", x.ifFailed(0, 22, 3), 0);
    }

    private static void allNumbersThen() {
        ScratchMap x = Scenes.worn();
        ifFailed(x, 0, 3, 1, 3, 0, 3);
        ifFailed(x, 0, 4, 1, 4, 1, 3);
        ifFailed(x, 0, 20, 0, 0, 1, 0);
        ifFailed(x, 20, 2, 1, 3, 1, 2);
        ifFailed(x, 10, 10, 1, 3, 0, 2);
    }

    private static void refusedThen() {
        ifFailed(Scenes.withSpots(0, 0), 0, 0, -1, -1, -1, -1);
        ifFailed(Scenes.worn(), 20, 1, -1, -1, -1, -1);
        ScratchMap x = Scenes.jammed();
        ifFailed(x, 0, 0, -1, -1, -1, -1);
        ifFailed(x, 23, 16, -1, -1, -1, -1);
        x.heal(23, 16);
        Due.is("the 12th: lines", x.ifFailed(23, 16, 0), 11);
        Due.is("another 12th: lines", x.ifFailed(1, 1, 0), x.count(1));
        Due.is("another 12th: lost", x.ifFailed(1, 1, 2), 0);
    }

    private static void noSuchForecast() {
        int[][] bad = {{5, 5, -1}, {5, 5, 4}, {5, 5, Edges.LEAST}, {5, 5, Edges.MOST}, {0, 0, 4}, {0, 0, -1}, {-1, 24, 0}, {24, -1, 0}, {-1, -1, -1}};
        for (int[] a : bad) {
            String name = "ifFailed(" + a[0] + ", " + a[1] + ", " + a[2] + ")";
            Edges.refuses(Scenes::worn, Edges.ARGUMENT, name, x -> x.ifFailed(a[0], a[1], a[2]));
            Edges.refuses(Scenes::jammed, Edges.ARGUMENT, name + " with 12 spots", x -> x.ifFailed(a[0], a[1], a[2]));
        }
    }

    // ---- worst, untidy

    private static void worstAfterEachChange() {
        ScratchMap x = Scenes.withSpots(9, 9, 9, 10);
        Due.is("no line", x.worst(), -1);
        x.fail(9, 11);
        Due.is("one line", x.worst(), 223);
        Scenes.failAll(x, 7, 12, 8, 12, 10, 12);
        Due.is("two lines", x.worst(), 228);
        x.fail(9, 12);
        Due.is("their common cell failed", x.worst(), 132);
        x.heal(9, 12);
        Due.is("and is healed", x.worst(), 228);
        x.set(0, 4);
        Due.is("no line again", x.worst(), -1);
    }

    private static void worstOfMostLines() {
        ScratchMap x = Scenes.withSpots(23, 20, 23, 21, 23, 22, 20, 23, 21, 23, 22, 23, 0, 0, 0, 1, 0, 2);
        Due.is("lines", x.count(1), 3);
        Due.is("the last cell, of two lines", x.worst(), 575);
        ScratchMap y = Scenes.withSpots(5, 5, 5, 6, 5, 8, 6, 7, 8, 7, 7, 7, 7, 9, 8, 10, 6, 8);
        Due.is("a cell of three lines", y.cell(5, 7, 2), 3);
        Due.is("is the worst", y.worst(), 127);
        ScratchMap z = Scenes.withSpots(5, 5, 5, 6, 5, 7, 6, 5, 6, 6, 6, 7, 7, 5, 7, 6, 7, 7);
        Due.is("a spot of four lines", z.cell(6, 6, 2), 4);
        Due.is("is not the worst, as it is not avoided", z.worst(), 75);
    }

    private static void worstIsTheLowest() {
        Due.is("of one line, the first cell", Scenes.withSpots(0, 2, 0, 3, 0, 4).worst(), 0);
        Due.is("of one line, between", Scenes.withSpots(0, 0, 1, 0, 3, 0).worst(), 48);
        Due.is("of one line upwards", Scenes.withSpots(23, 23, 23, 22, 23, 21).worst(), 571);
        Due.is("of two lines apart", Scenes.withSpots(9, 9, 9, 10, 9, 11, 3, 3, 3, 4, 3, 5).worst(), 73);
        ScratchMap x = Scenes.withSpots(10, 8, 10, 9, 10, 11, 8, 10, 9, 10, 11, 10, 3, 3, 3, 4, 3, 6, 1, 5, 2, 5, 4, 5);
        Due.is("two cells of two lines", x.cell(3, 5, 2) * 10 + x.cell(10, 10, 2), 22);
        Due.is("the lower of them", x.worst(), 77);
    }

    private static void worstOfNone() {
        Due.is("of a new object", new ScratchMap().worst(), -1);
        Due.is("of spots without a line", Scenes.withSpots(0, 0, 0, 1).worst(), -1);
        ScratchMap x = Scenes.withSpots(0, 0, 0, 1, 0, 2);
        x.set(2, 0);
        Due.is("of a line whose cells are all spots", x.worst(), -1);
        Due.is("lines", x.count(1), 1);
        x.heal(0, 1);
        Due.is("of a line that went", x.worst(), -1);
    }

    private static void untidyTellsWhatTidyDoes() {
        ScratchMap[] drives = {new ScratchMap(), Scenes.worn(), Scenes.withoutRoom(), Scenes.withLowBlockToComeBack(), Scenes.withHighBlockToComeBack(), Scenes.crowded()};
        int[] due = {0, 2, 0, 2, 1, 96};
        for (int i = 0; i < drives.length; i++) {
            Due.is("untidy() of drive " + i, drives[i].untidy(), due[i]);
            Due.is("tidy(99) of drive " + i, drives[i].tidy(99), due[i]);
        }
        Due.is("untidy() after it", drives[5].untidy(), 0);
    }

    private static void untidyWithoutBound() {
        ScratchMap x = Scenes.inNeedOfManyMoves();
        int untidy = x.untidy();
        Due.is("more than tidy() may be told", untidy > 99, true);
        Due.is("tidy(99)", x.tidy(99), 99);
        Due.is("untidy() then", x.untidy(), untidy - 99);
        Due.is("tidy(99), the rest", x.tidy(99), untidy - 99);
        Due.is("one pass", Scenes.withHighBlockToComeBack().untidy(), 1);
    }

    // ---- find

    private static void find(Sentences s) {
        s.hold(22, "Finds the block that a value is read from.", WouldBeEdges::findsBlocks);
        s.hold(22, "`value`: 0 to 999", WouldBeEdges::findValues);
        s.hold(22, "Returns the lowest block with this value; NONE if there is none.", WouldBeEdges::findsTheLowest);
        s.hold(22, "Throws `IllegalArgumentException` if value is out of range", WouldBeEdges::findNoSuchValue);
    }

    private static void findsBlocks() {
        ScratchMap x = Scenes.withSpots(0, 9);
        x.write(9, 5);
        Due.is("find(5), in a spare", x.find(5), 9);
        x.write(9, 6);
        Due.is("find(5), written over", x.find(5), -1);
        Due.is("find(6)", x.find(6), 9);
        x.fail(20, 0);
        Due.is("find(6), lost", x.find(6), -1);
        x.undo();
        Due.is("find(6), undone", x.find(6), 9);
    }

    private static void findValues() {
        ScratchMap x = new ScratchMap();
        Due.is("find(0) of a new object", x.find(0), -1);
        Due.is("find(999) of a new object", x.find(999), -1);
        x.write(4, 0);
        x.write(3, 999);
        Due.is("find(0)", x.find(0), 4);
        Due.is("find(999)", x.find(999), 3);
        Edges.refuses(Scenes::worn, Edges.ARGUMENT, "find(-1)", y -> y.find(-1));
        Edges.refuses(Scenes::worn, Edges.ARGUMENT, "find(1000)", y -> y.find(1000));
    }

    private static void findsTheLowest() {
        ScratchMap x = new ScratchMap();
        x.write(479, 5);
        Due.is("find(5), the last block", x.find(5), 479);
        x.write(478, 5);
        x.write(200, 5);
        x.write(300, 5);
        Due.is("find(5), of several", x.find(5), 200);
        x.fail(0, 0);
        x.write(0, 5);
        Due.is("find(5), the first block, in a spare", x.find(5), 0);
        x.drop(0);
        x.drop(200);
        Due.is("find(5), of those that are left", x.find(5), 300);
        Due.is("find(6)", x.find(6), -1);
    }

    private static void findNoSuchValue() {
        for (int value : new int[] {-1, 1000, Edges.LEAST, Edges.MOST}) {
            Edges.refuses(Scenes::worn, Edges.ARGUMENT, "find(" + value + ")", x -> x.find(value));
            Edges.refuses(ScratchMap::new, Edges.ARGUMENT, "find(" + value + ") of a new object", x -> x.find(value));
        }
    }

    // ---- goodShare

    private static void shareOfAll() {
        Due.is("goodShare() of a new object", new ScratchMap().goodShare(), 1.0);
        Due.is("goodShare() of 12 spots and 11 lines", Scenes.jammed().goodShare(), (576 - 12 - 98) / 576.0);
        ScratchMap x = new ScratchMap();
        x.fill(0, 48, 1);
        Due.is("goodShare() of taken cells", x.goodShare(), 1.0);
    }

    private static void shareOfGoodCells() {
        ScratchMap x = new ScratchMap();
        int[] good = {575, 574, 571, 570, 569, 572 - 4};
        for (int sector = 0; sector < good.length; sector++) {
            x.fail(0, sector);
            Due.is("goodShare() with " + (sector + 1) + " spots", x.goodShare(), good[sector] / 576.0);
        }
        x.fail(0, 23);
        Due.is("goodShare() when the line went", x.goodShare(), 569 / 576.0);
        ScratchMap y = Scenes.withSpots(9, 9, 9, 10, 9, 11, 7, 12, 8, 12, 10, 12);
        Due.is("goodShare(): a cell of two lines counts once", y.goodShare(), (576 - 6 - 8) / 576.0);
    }

    // ---- digest

    private static void digest(Sentences s) {
        s.hold(24, "Computes a hash of the whole state.", WouldBeEdges::digestOfTheWholeState);
        s.hold(24, "The hash starts at 2851.", WouldBeEdges::digestOfNewObject);
        s.hold(24, "For each value v of the following list, in order, the hash becomes 31 * hash + v, in long arithmetic with overflow.", WouldBeEdges::digestOfFullDrive);
        s.hold(24, "The values are: count(0) to count(9); the settings 0 to 2; for each spot, in the order in which they came, its cell number;", WouldBeEdges::digestOfSpots);
        s.hold(24, "for each line its properties 0 to 5; for each avoided cell, by ascending numbers, its number, and how many lines have it;", WouldBeEdges::digestOfLines);
        s.hold(24, "for each block with a value its number, its value and its cell;", WouldBeEdges::digestOfBlocks);
        s.hold(24, "ifFailed of the cells (2, 3), (10, 10) and (21, 5), each with 0 to 3; worst; untidy;", WouldBeEdges::digestOfForecasts);
        s.hold(24, "the bits of goodShare (as Double.doubleToLongBits);", WouldBeEdges::digestOfShares);
        s.hold(24, "the length of the buffer and each of its character codes.", WouldBeEdges::digestOfBuffer);
        s.hold(24, "Returns the hash.", () -> Due.is("digest() twice", Scenes.worn().digest(), Scenes.worn().digest()));
    }

    private static void hash(String name, ScratchMap x, long... values) {
        long hash = 2851;
        for (long value : values) {
            hash = 31 * hash + value;
        }
        Due.is(name + ": digest()", x.digest(), hash);
    }

    private static long share(int good) {
        return Double.doubleToLongBits(good / 576.0);
    }

    private static void digestOfTheWholeState() {
        ScratchMap x = Scenes.withText("1");
        long first = x.digest();
        Edges.Call[] calls = {y -> y.write(9, 1), y -> y.fail(9, 9), y -> y.set(0, 4), y -> y.append('1'), y -> y.clearBuffer(), y -> y.drop(9), y -> y.undo()};
        long before = first;
        for (int i = 0; i < calls.length; i++) {
            calls[i].on(x);
            Due.is("digest() is as it was before call " + i, x.digest() == before, false);
            before = x.digest();
        }
    }

    private static void digestOfNewObject() {
        hash("a new object", new ScratchMap(), 0, 0, 0, 0, 0, 0, 96, 0, 0, 0, 3, 3, 2, 0, 0, 0, 0, 0, 0, 0, 0, 0, 0, 0, 0, -1, 0, share(576), 0);
    }

    private static void digestOfFullDrive() {
        ScratchMap x = new ScratchMap();
        Model m = new Model();
        for (int first = 0; first < 480; first += 48) {
            Due.is("fill()", x.fill(first, 48, 999 - first), m.fill(first, 48, 999 - first));
        }
        Due.is("set()", x.set(1, 8) + x.set(2, 6), m.set(1, 8) + m.set(2, 6));
        for (int spot = 0; spot < 12; spot++) {
            Due.is("fail()", x.fail(2 + spot / 3, spot % 3 * 8), m.fail(2 + spot / 3, spot % 3 * 8));
            Due.is("digest() with " + (spot + 1) + " spots", x.digest(), m.digest());
        }
        for (int length = 1; length <= 60; length++) {
            Due.is("append()", x.append(66 + length), m.append(66 + length));
        }
        Due.is("digest() of the full drive", x.digest(), m.digest());
        Due.is("tidy()", x.tidy(99), m.tidy(99));
        Due.is("digest() of the tidy drive", x.digest(), m.digest());
    }

    private static void digestOfSpots() {
        ScratchMap x = Scenes.withSpots(23, 23, 0, 0, 9, 1);
        x.set(1, 8);
        x.set(2, 0);
        hash("three spots", x, 3, 0, 0, 0, 0, 0, 95, 0, 0, 5, 3, 8, 0, 575, 0, 217, 0, 0, 0, 0, 0, 0, 0, 0, 0, 0, 0, 0, -1, 0, share(573), 0);
        ScratchMap y = Scenes.withSpots(0, 0, 9, 1, 23, 23);
        y.set(1, 8);
        y.set(2, 0);
        hash("the same in another order", y, 3, 0, 0, 0, 0, 0, 95, 0, 0, 5, 3, 8, 0, 0, 217, 575, 0, 0, 0, 0, 0, 0, 0, 0, 0, 0, 0, 0, -1, 0, share(573), 0);
    }

    private static void digestOfLines() {
        ScratchMap x = Scenes.withSpots(0, 2, 0, 1, 0, 3, 1, 5, 2, 5, 3, 5);
        hash("two lines", x, 6, 2, 5, 0, 0, 0, 96, 0, 0, 6, 3, 3, 2, 2, 1, 3, 29, 53, 77,
            7, 3, 6, 0, 0, 25, 56, 3, 6, 0, 1, 24, 0, 1, 4, 1, 5, 2, 101, 1, 125, 1,
            2, 5, 0, 0, 2, 5, 0, 0, 1, 3, 0, 0, 5, 0, share(565), 0);
    }

    private static void digestOfBlocks() {
        ScratchMap x = Scenes.withSpots(0, 0);
        x.write(479, 0);
        x.write(0, 999);
        x.write(30, 5);
        hash("three blocks", x, 1, 0, 0, 3, 1, 0, 95, 0, 0, 4, 3, 3, 2, 0, 0, 999, 480, 30, 5, 30, 479, 0, 479,
            0, 0, 0, 0, 0, 0, 0, 0, 0, 0, 0, 0, -1, 0, share(575), 0);
    }

    private static void digestOfForecasts() {
        ScratchMap x = Scenes.withSpots(2, 4, 2, 5, 21, 5);
        x.fill(49, 3, 1);
        x.write(250, 1);
        hash("what would be", x, 3, 0, 0, 4, 0, 0, 95, 0, 0, 5, 3, 3, 2, 52, 53, 509, 49, 1, 49, 50, 1, 50, 51, 1, 51, 250, 1, 250,
            1, 4, 1, 2, 0, 0, 1, 0, -1, -1, -1, -1, -1, 0, share(573), 0);
        ScratchMap y = Scenes.jammed();
        Due.is("12 spots", y.count(0), 12);
        Model m = new Model();
        m.set(1, 8);
        m.set(2, 6);
        for (int spot = 0; spot < 12; spot++) {
            m.fail(20 + spot / 3, spot % 3 * 8);
        }
        Due.is("digest() with 12 spots", y.digest(), m.digest());
        ScratchMap z = new ScratchMap();
        z.write(2, 1);
        Scenes.failAll(z, 0, 0, 0, 1, 0, 3);
        hash("worst and untidy", z, 3, 1, 3, 1, 0, 1, 96, 0, 0, 4, 3, 3, 2, 0, 1, 3, 7, 3, 6, 1, 0, 25, 2, 1, 4, 1, 5, 1, 2, 1, 2,
            1, 3, 0, 1, 1, 3, 0, 1, 1, 3, 0, 1, 2, 1, share(570), 0);
    }

    private static void digestOfShares() {
        ScratchMap x = new ScratchMap();
        Model m = new Model();
        int[][] places = {{0, 0}, {0, 8}, {0, 16}, {8, 0}, {8, 8}, {8, 16}, {16, 0}, {16, 8}, {16, 16}};
        Due.is("settings", x.set(1, 8) + x.set(2, 6), m.set(1, 8) + m.set(2, 6));
        for (int[] p : places) {
            Due.is("fail()", x.fail(p[0], p[1]), m.fail(p[0], p[1]));
            Due.is("digest() with the share " + x.goodShare(), x.digest(), m.digest());
        }
        for (int beyond = 0; beyond <= 6; beyond++) {
            Due.is("set()", x.set(2, beyond), m.set(2, beyond));
            Due.is("digest() with the share " + x.goodShare(), x.digest(), m.digest());
        }
    }

    private static void digestOfBuffer() {
        ScratchMap x = new ScratchMap();
        x.append(126);
        x.append(33);
        hash("two characters", x, 0, 0, 0, 0, 0, 0, 96, 0, 0, 0, 3, 3, 2, 0, 0, 0, 0, 0, 0, 0, 0, 0, 0, 0, 0, -1, 0, share(576), 2, 126, 33);
        x.clearBuffer();
        hash("cleared", x, 0, 0, 0, 0, 0, 0, 96, 0, 0, 0, 3, 3, 2, 0, 0, 0, 0, 0, 0, 0, 0, 0, 0, 0, 0, -1, 0, share(576), 0);
        ScratchMap y = new ScratchMap();
        long[] values = new long[29 + 60];
        System.arraycopy(new long[] {0, 0, 0, 0, 0, 0, 96, 0, 0, 0, 3, 3, 2, 0, 0, 0, 0, 0, 0, 0, 0, 0, 0, 0, 0, -1, 0, share(576), 60}, 0, values, 0, 29);
        for (int i = 0; i < 60; i++) {
            y.append(126 - i);
            values[29 + i] = 126 - i;
        }
        hash("60 characters", y, values);
    }
}
