/** The sentences of the terms: cells, blocks, spots, writing, tidying, settings, exceptions. */
final class TermsEdges {
    private static final int CALLS = 512;

    private TermsEdges() {
    }

    static void all(Sentences s) {
        s.hold(0, "An object is used for at most 512 calls after it has been made; what later calls answer is free.", TermsEdges::upToTheLastCall);
        s.hold(0, "All numbers are integers, but for a share; divisions are rounded down (all divided numbers are at least 0).", TermsEdges::onlySharesHaveFractions);
        cellsAndBlocks(s);
        writing(s);
        tidying(s);
        s.hold(0, "0: spots that make a line, 3 to 6, at first 3;", () -> range(0, 3, 6, 3));
        s.hold(0, "1: steps between neighbours, 1 to 8, at first 3;", () -> range(1, 1, 8, 3));
        s.hold(0, "2: steps beyond, 0 to 6, at first 2.", () -> range(2, 0, 6, 2));
        s.hold(0, "A call that throws an exception changes nothing.", TermsEdges::refusedCallsChangeNothing);
        s.hold(0, "If several exceptions apply, the one that is named first in the throws clause is thrown.", TermsEdges::theFirstNamedException);
        s.hold(0, "The constants: `NONE = -1`: There is nothing to return.", () -> Due.is("NONE", ScratchMap.NONE, -1));
        String[] headings = {"## Terms", "Cells, blocks", "Spots, lines", "### Writing", "### Settings", "### Input text", "### Undo", "### Exceptions",
            "Ahead of the calls `write`, `fill`, `drop` the interface says: ---- blocks.",
            "Ahead of the calls `fail`, `heal`, `tidy`, `set` the interface says: ---- spots.",
            "Ahead of the calls `append`, `clearBuffer`, `firstError`, `read`, `undo` the interface says: ---- texts."};
        for (String heading : headings) {
            s.passBy(0, heading);
        }
    }

    private static void upToTheLastCall() {
        ScratchMap x = new ScratchMap();
        for (int call = 1; call <= 505; call++) {
            Due.is("write() as call " + call, x.write(call % 480, call), call % 480);
        }
        for (int call = 506; call < CALLS; call++) {
            Due.is("undo() as call " + call, x.undo(), CALLS - 1 - call);
        }
        Due.is("block(19, 0) as call 512", x.block(19, 0), 499);
        ScratchMap y = Scenes.jammed();
        long hash = y.digest();
        for (int call = 16; call <= CALLS; call++) {
            Due.is("digest() as call " + call, y.digest(), hash);
        }
    }

    private static void onlySharesHaveFractions() {
        double share = Scenes.withSpots(0, 0).goodShare();
        Due.is("goodShare() is between 0 and 1", share > 0.0 && share < 1.0, true);
        Due.is("goodShare() with a spot", share, 575.0 / 576.0);
    }

    // ---- cells, blocks

    private static void cellsAndBlocks(Sentences s) {
        s.hold(0, "The drive has 24 tracks and 24 sectors, numbered from 0; each track and sector have a cell,", TermsEdges::corners);
        s.hold(0, "whose number is 24 times the track plus the sector.", TermsEdges::cellNumbers);
        s.hold(0, "The tracks 20 to 23 are spare.", TermsEdges::firstAndLastSpare);
        s.hold(0, "There are 480 blocks; the home of a block is the cell with its number.", TermsEdges::allHomes);
        s.hold(0, "A block has a value, 0 to 999, or none, at first none;", TermsEdges::valuesOrNone);
        s.hold(0, "a block with a value is at its home, or in a spare cell.", TermsEdges::atHomeOrInSpare);
        s.hold(0, "A cell that has a block's value is taken.", TermsEdges::takenCells);
        s.hold(0, "A cell can fail: it is a spot then.", TermsEdges::cornersFail);
        s.hold(0, "There are at most 12 spots, in the order in which they came.", TermsEdges::twelveSpots);
    }

    private static void corners() {
        int[][] corners = {{0, 0}, {0, 23}, {23, 0}, {23, 23}};
        int[][] outside = {{-1, 0}, {0, -1}, {-1, 23}, {0, 24}, {24, 0}, {23, -1}, {24, 23}, {23, 24}};
        ScratchMap x = new ScratchMap();
        for (int[] c : corners) {
            Due.is("cell(" + c[0] + ", " + c[1] + ", 0)", x.cell(c[0], c[1], 0), 0);
        }
        for (int[] c : outside) {
            Edges.refuses(ScratchMap::new, Edges.ARGUMENT, "cell(" + c[0] + ", " + c[1] + ", 0)", y -> y.cell(c[0], c[1], 0));
        }
    }

    private static void cellNumbers() {
        ScratchMap x = new ScratchMap();
        for (int block : new int[] {0, 1, 23, 24, 47, 48, 455, 456, 479}) {
            Due.is("write(" + block + ", 3)", x.write(block, 3), block);
            Due.is("the block in the cell of " + block, x.cell(block / 24, block % 24, 1), block);
        }
        Due.is("the number of (23, 23)", Scenes.withSpots(23, 20, 23, 21, 23, 22, 20, 23, 21, 23, 22, 23).worst(), 575);
        Due.is("the number of (0, 0)", Scenes.withSpots(0, 1, 0, 2, 0, 3).worst(), 0);
    }

    private static void firstAndLastSpare() {
        ScratchMap x = Scenes.withSpots(0, 0, 19, 23);
        Due.is("write(478, 1) at home", x.write(478, 1), 478);
        Due.is("(19, 22) is no spare", x.block(478, 2), 0);
        Due.is("write(0, 1), the first spare", x.write(0, 1), 480);
        Due.is("(20, 0) is a spare", x.block(0, 2), 1);
        ScratchMap y = Scenes.jammed();
        int[] spares = {503, 527, 551, 575};
        for (int i = 0; i < spares.length; i++) {
            Due.is("write(" + (336 + 8 * i) + ", 1)", y.write(336 + 8 * i, 1), spares[i]);
        }
        Due.is("(23, 23) is a spare", y.block(360, 2), 1);
        Due.is("all spares", new ScratchMap().count(6), 96);
        allSparesTaken();
    }

    private static void allSparesTaken() {
        ScratchMap x = Scenes.crowded();
        Due.is("tidy(99)", x.tidy(99), 96);
        Due.is("blocks in spares", x.count(4), 96);
        Due.is("free spares", x.count(6), 0);
        Due.is("the last one", x.cell(23, 23, 1) >= 0, true);
    }

    private static void allHomes() {
        ScratchMap x = new ScratchMap();
        for (int first = 0; first < 480; first += 48) {
            Due.is("fill(" + first + ", 48, 2)", x.fill(first, 48, 2), 48);
        }
        Due.is("blocks with values", x.count(3), 480);
        Due.is("in spares", x.count(4), 0);
        for (int block : new int[] {0, 23, 24, 239, 456, 479}) {
            Due.is("where " + block + " is", x.block(block, 1), block);
            Due.is("the block there", x.cell(block / 24, block % 24, 1), block);
        }
        Edges.refuses(Scenes::worn, Edges.INDEX, "write(480, 2)", y -> y.write(480, 2));
        Edges.refuses(Scenes::worn, Edges.INDEX, "write(-1, 2)", y -> y.write(-1, 2));
    }

    private static void valuesOrNone() {
        ScratchMap x = new ScratchMap();
        Due.is("at first", x.block(7, 0), -1);
        Due.is("cell (0, 7) at first", x.cell(0, 7, 1), -1);
        x.write(7, 0);
        Due.is("0 is a value", x.block(7, 0), 0);
        Due.is("blocks with values", x.count(3), 1);
        x.write(7, 999);
        Due.is("999 is a value", x.block(7, 0), 999);
        Edges.refuses(Scenes::worn, Edges.ARGUMENT, "write(7, -1)", y -> y.write(7, -1));
        Edges.refuses(Scenes::worn, Edges.ARGUMENT, "write(7, 1000)", y -> y.write(7, 1000));
        Due.is("no other has one", x.block(6, 0) + x.block(8, 0), -2);
    }

    private static void atHomeOrInSpare() {
        ScratchMap x = Scenes.withoutRoom();
        Due.is("fill(441, 39, 3)", x.fill(441, 39, 3), 7);
        for (int block = 441; block < 448; block++) {
            Due.is("where " + block + " is", x.block(block, 1), block);
        }
        Due.is("the home of 449 is good and free", x.cell(18, 17, 0) + x.cell(18, 17, 1), -1);
        Due.is("but it is not for 448", Due.outcome(() -> x.write(448, 3)), Edges.STATE);
        Due.is("in spares", x.count(4), 4);
    }

    private static void takenCells() {
        ScratchMap x = Scenes.withSpots(0, 0, 0, 1);
        Due.is("free spares", x.count(6), 96);
        Due.is("write(0, 1)", x.write(0, 1), 480);
        Due.is("free spares then", x.count(6), 95);
        Due.is("write(1, 1), not to the taken cell", x.write(1, 1), 481);
        x.drop(0);
        Due.is("not taken any more", x.cell(20, 0, 1), -1);
        Due.is("free spares after drop(0)", x.count(6), 95);
        Due.is("write(0, 2)", x.write(0, 2), 480);
    }

    private static void cornersFail() {
        ScratchMap x = new ScratchMap();
        for (int[] c : new int[][] {{0, 0}, {0, 23}, {19, 23}, {20, 0}, {23, 0}, {23, 23}}) {
            Due.is("lines", x.fail(c[0], c[1]), 0);
            Due.is("cell(" + c[0] + ", " + c[1] + ", 0)", x.cell(c[0], c[1], 0), 2);
        }
        Due.is("spots", x.count(0), 6);
        Due.is("spares that are left", x.count(6), 93);
    }

    private static void twelveSpots() {
        int[] places = {9, 9, 0, 0, 23, 23, 0, 23, 23, 0, 5, 20, 20, 5, 12, 3, 3, 12, 7, 16, 16, 8, 1, 10};
        ScratchMap x = Scenes.withSpots(places);
        Due.is("spots", x.count(0), 12);
        for (int spot = 0; spot < 12; spot++) {
            Due.is("spot " + spot, x.cell(places[2 * spot], places[2 * spot + 1], 3), spot);
        }
        Edges.refuses(() -> Scenes.withSpots(places), Edges.STATE, "fail(2, 2), the 13th", y -> y.fail(2, 2));
        x.heal(9, 9);
        Due.is("the second is the first then", x.cell(0, 0, 3), 0);
        Due.is("the last", x.cell(1, 10, 3), 10);
        x.fail(9, 9);
        Due.is("the first comes last now", x.cell(9, 9, 3), 11);
    }

    // ---- writing

    private static void writing(Sentences s) {
        s.hold(0, "A block that is written comes to the cell where it is, if it has a value and this cell is good;", TermsEdges::staysInGoodCell);
        s.hold(0, "otherwise to its home, if that is good, and otherwise to the lowest spare cell that is good and not taken;", TermsEdges::homeOrLowestSpare);
        s.hold(0, "then the cell where it was is not taken by it any more.", TermsEdges::leavesItsCell);
        s.hold(0, "If there is none, it cannot be written.", TermsEdges::nowhereToWrite);
        s.hold(0, "When a cell fails, the value of the block that is there is lost: it has none then.", TermsEdges::failingLosesValues);
    }

    private static void staysInGoodCell() {
        ScratchMap x = Scenes.withSpots(0, 0, 19, 23);
        Due.is("write(0, 1)", x.write(0, 1), 480);
        x.heal(0, 0);
        Due.is("its home is good again", x.cell(0, 0, 0), 0);
        Due.is("write(0, 2) stays in the spare", x.write(0, 2), 480);
        Due.is("write(1, 1) at home", x.write(1, 1), 1);
        Due.is("write(1, 2) stays at home", x.write(1, 2), 1);
        x.drop(0);
        Due.is("without a value it comes to its home", x.write(0, 3), 0);
        Due.is("moves", x.count(8), 0);
    }

    private static void homeOrLowestSpare() {
        ScratchMap x = Scenes.withSpots(0, 0, 20, 0, 20, 2, 20, 3);
        Due.is("20, 1 is avoided", x.cell(20, 1, 0), 1);
        Due.is("write(1, 1), a good home", x.write(1, 1), 1);
        Due.is("write(0, 1), the lowest good spare", x.write(0, 1), 486);
        Scenes.failAll(x, 0, 1, 0, 2);
        Due.is("write(1, 1), a spot for home", x.write(1, 1), 487);
        Due.is("write(3, 1), an avoided home", x.write(3, 1), 488);
        x.drop(1);
        Due.is("write(4, 1) to a lower spare that is free again", x.write(4, 1), 487);
        Scenes.failAll(x, 20, 7, 20, 5);
        Due.is("the spares of 0 and 3 are avoided", x.count(5), 2);
        x.heal(0, 1);
        Due.is("write(0, 2), its home is a spot", x.write(0, 2), 490);
        x.set(2, 6);
        Due.is("the spare of 3 is still avoided", x.cell(20, 8, 0), 1);
        Due.is("write(3, 2) from a bad spare to its good home", x.write(3, 2), 3);
    }

    private static void leavesItsCell() {
        ScratchMap x = Scenes.withSpots(0, 0, 0, 1);
        x.write(3, 1);
        x.fail(0, 2);
        Due.is("write(3, 2) leaves its home", x.write(3, 2), 480);
        Due.is("its home", x.cell(0, 3, 1), -1);
        Due.is("its spare", x.cell(20, 0, 1), 3);
        Scenes.failAll(x, 20, 1, 20, 2, 20, 3);
        Due.is("write(3, 3) leaves its spare", x.write(3, 3), 486);
        Due.is("the spare where it was", x.cell(20, 0, 1), -1);
        x.heal(20, 2);
        Due.is("write(4, 1) to the spare where it was", x.write(4, 1), 480);
        Due.is("blocks in spares", x.count(4), 2);
    }

    private static void nowhereToWrite() {
        Due.is("spares that are free", Scenes.withoutRoom().count(6), 0);
        Edges.refuses(Scenes::withoutRoom, Edges.STATE, "write(368, 1), no value and a bad home", y -> y.write(368, 1));
        Edges.refuses(Scenes::withoutRoom, Edges.STATE, "write(384, 1), in a bad home", y -> y.write(384, 1));
        ScratchMap x = Scenes.withoutRoom();
        Due.is("384 keeps its value", Due.outcome(() -> x.write(384, 1)) == Edges.STATE ? x.block(384, 0) : -2, 7);
        Due.is("write(0, 2), in a good home", x.write(0, 2), 0);
        Due.is("write(1, 2), a good home", x.write(1, 2), 1);
        Due.is("write(360, 2), in a good spare", x.write(360, 2), 575);
        x.drop(344);
        Due.is("write(384, 1), one spare is free", x.write(384, 1), 527);
        Due.is("none is free then", Due.outcome(() -> x.write(344, 1)), Edges.STATE);
    }

    private static void failingLosesValues() {
        ScratchMap x = Scenes.withSpots(0, 0);
        x.write(0, 1);
        x.write(1, 0);
        x.fail(0, 1);
        Due.is("block(1, 0), at home, with the value 0", x.block(1, 0), -1);
        Due.is("block(1, 1)", x.block(1, 1), -1);
        Due.is("cell(0, 1, 1)", x.cell(0, 1, 1), -1);
        x.heal(0, 0);
        x.fail(0, 0);
        Due.is("block(0, 0), whose empty home failed", x.block(0, 0), 1);
        x.fail(20, 0);
        Due.is("block(0, 0), in a spare", x.block(0, 0), -1);
        Due.is("lost", x.count(7), 2);
        x.heal(0, 1);
        Due.is("healing brings nothing back", x.count(3), 0);
        x.write(3, 4);
        Scenes.failAll(x, 0, 1, 0, 2);
        Due.is("an avoided cell loses nothing", x.block(3, 0), 4);
    }

    // ---- tidying

    private static void tidying(Sentences s) {
        s.hold(0, "To tidy up means for each block with a value, by ascending numbers:", TermsEdges::tidiesByAscendingNumbers);
        s.hold(0, "if it is in a cell that is not good, it is moved to its home, if that is good,", TermsEdges::tidiesFromBadSpareToHome);
        s.hold(0, "otherwise to the lowest spare cell that is good and not taken (if there is one);", TermsEdges::tidiesToLowestSpare);
        s.hold(0, "if it is in a spare cell that is good, and its home is good, it comes back to its home.", TermsEdges::tidiesBackHome);
        s.hold(0, "There are at most as many moves as told.", TermsEdges::tidiesAsToldAtMost);
        s.hold(0, "(This is one pass; what a move frees is free at once.)", TermsEdges::tidiesInOnePass);
    }

    private static void tidiesByAscendingNumbers() {
        ScratchMap x = new ScratchMap();
        x.fill(0, 5, 1);
        x.fill(477, 3, 2);
        Scenes.failAll(x, 0, 1, 0, 2, 0, 3, 19, 20, 19, 21, 19, 22);
        Due.is("tidy(99)", x.tidy(99), 3);
        Due.is("block 0", x.block(0, 1), 480);
        Due.is("block 4", x.block(4, 1), 481);
        Due.is("block 479", x.block(479, 1), 482);
        Due.is("lost ones do not move", x.block(1, 1), -1);
        Due.is("all values stay", x.block(0, 0) * 100 + x.block(4, 0) * 10 + x.block(479, 0), 112);
        Due.is("tidy(99) of an empty drive", new ScratchMap().tidy(99), 0);
    }

    private static void tidiesFromBadSpareToHome() {
        ScratchMap x = Scenes.withSpots(0, 0);
        x.write(0, 1);
        Scenes.failAll(x, 20, 1, 20, 2, 20, 3);
        x.heal(0, 0);
        Due.is("in a bad spare", x.cell(20, 0, 0) + x.count(5), 2);
        Due.is("tidy(1)", x.tidy(1), 1);
        Due.is("at home", x.block(0, 1), 0);
        Due.is("its spare", x.cell(20, 0, 1), -1);
    }

    private static void tidiesToLowestSpare() {
        ScratchMap x = Scenes.withSpots(0, 0);
        x.write(0, 1);
        Scenes.failAll(x, 20, 1, 20, 2, 20, 3);
        Due.is("tidy(1), from spare to spare", x.tidy(1), 1);
        Due.is("the lowest good one", x.block(0, 1), 486);
        Due.is("the one where it was", x.cell(20, 0, 1), -1);
        ScratchMap y = Scenes.withoutRoom();
        Due.is("tidy(99) without room", y.tidy(99), 0);
        Due.is("384 stays", y.block(384, 1), 384);
        y.drop(352);
        Due.is("tidy(99) with room for one", y.tidy(99), 1);
        Due.is("384 has it", y.block(384, 1), 551);
    }

    private static void tidiesBackHome() {
        ScratchMap x = Scenes.withSpots(0, 0, 19, 23);
        x.write(0, 1);
        x.write(479, 2);
        x.write(5, 3);
        Due.is("tidy(99), the homes are spots", x.tidy(99), 0);
        x.heal(19, 23);
        Due.is("tidy(99), one home is good", x.tidy(99), 1);
        Due.is("block 479", x.block(479, 1), 479);
        Due.is("block 0 stays in its good spare", x.block(0, 1), 480);
        Scenes.failAll(x, 0, 1, 0, 2);
        x.heal(0, 0);
        x.fail(0, 3);
        Due.is("tidy(99), a home is avoided", x.tidy(99), 1);
        Due.is("block 0 stays in its good spare then", x.block(0, 1), 480);
        Due.is("block 5 left its avoided home", x.block(5, 1), 481);
    }

    private static void tidiesAsToldAtMost() {
        for (int moves = 1; moves <= 5; moves++) {
            ScratchMap x = new ScratchMap();
            x.fill(0, 24, 1);
            Scenes.failAll(x, 0, 4, 0, 5, 0, 6);
            Due.is("untidy()", x.untidy(), 4);
            Due.is("tidy(" + moves + ")", x.tidy(moves), Math.min(4, moves));
            Due.is("blocks in spares", x.count(4), Math.min(4, moves));
            Due.is("block 8 is moved last", x.block(8, 1), moves < 4 ? 8 : 483);
        }
        ScratchMap y = Scenes.inNeedOfManyMoves();
        int needed = y.untidy();
        Due.is("more than 99 are needed", needed > 99, true);
        Due.is("tidy(99)", y.tidy(99), 99);
        Due.is("moves so far", y.count(8), 96 + 99);
        Due.is("tidy(99), the rest", y.tidy(99), needed - 99);
    }

    private static void tidiesInOnePass() {
        ScratchMap x = Scenes.withLowBlockToComeBack();
        Due.is("the bad block's pass: untidy()", x.untidy(), 2);
        Due.is("tidy(99): 336 comes back, and 416 takes its spare", x.tidy(99), 2);
        Due.is("block 336", x.block(336, 1), 336);
        Due.is("block 416", x.block(416, 1), 503);
        ScratchMap y = Scenes.withHighBlockToComeBack();
        Due.is("tidy(99): 479 comes back, too late for 360", y.tidy(99), 1);
        Due.is("block 479", y.block(479, 1), 479);
        Due.is("block 360", y.block(360, 1), 360);
        Due.is("tidy(99), the next pass", y.tidy(99), 1);
        Due.is("block 360 then", y.block(360, 1), 503);
    }

    // ---- settings

    private static void range(int setting, int least, int most, int first) {
        Due.is("setting(" + setting + ") at first", new ScratchMap().setting(setting), first);
        ScratchMap x = new ScratchMap();
        for (int value = least; value <= most; value++) {
            x.set(setting, value);
            Due.is("setting(" + setting + ") then", x.setting(setting), value);
        }
        for (int value : new int[] {least - 1, most + 1, Edges.LEAST, Edges.MOST}) {
            Edges.refuses(Scenes::worn, Edges.ARGUMENT, "set(" + setting + ", " + value + ")", y -> y.set(setting, value));
        }
    }

    // ---- exceptions

    private static void refusedCallsChangeNothing() {
        Edges.refuses(Scenes::worn, Edges.INDEX, "write(480, 1)", x -> x.write(480, 1));
        Edges.refuses(Scenes::worn, Edges.ARGUMENT, "write(3, 1000)", x -> x.write(3, 1000));
        Edges.refuses(Scenes::withoutRoom, Edges.STATE, "write(368, 1)", x -> x.write(368, 1));
        Edges.refuses(Scenes::worn, Edges.INDEX, "fill(470, 11, 1)", x -> x.fill(470, 11, 1));
        Edges.refuses(Scenes::worn, Edges.ARGUMENT, "fill(0, 48, -1)", x -> x.fill(0, 48, -1));
        Edges.refuses(Scenes::worn, Edges.INDEX, "drop(-1)", x -> x.drop(-1));
        Edges.refuses(Scenes::worn, Edges.ARGUMENT, "fail(0, 24)", x -> x.fail(0, 24));
        Edges.refuses(Scenes::worn, Edges.STATE, "fail(20, 1), a spot", x -> x.fail(20, 1));
        Edges.refuses(Scenes::withoutRoom, Edges.STATE, "fail(0, 0), the 13th", x -> x.fail(0, 0));
        Edges.refuses(Scenes::worn, Edges.ARGUMENT, "heal(24, 0)", x -> x.heal(24, 0));
        Edges.refuses(Scenes::worn, Edges.STATE, "heal(0, 3), avoided", x -> x.heal(0, 3));
        Edges.refuses(Scenes::worn, Edges.ARGUMENT, "tidy(100)", x -> x.tidy(100));
        Edges.refuses(Scenes::worn, Edges.INDEX, "set(3, 3)", x -> x.set(3, 3));
        Edges.refuses(Scenes::worn, Edges.ARGUMENT, "set(0, 2)", x -> x.set(0, 2));
        Edges.refuses(Scenes::worn, Edges.ARGUMENT, "append(127)", x -> x.append(127));
        Edges.refuses(TextsEdges::fullBuffer, Edges.STATE, "append(49)", x -> x.append('1'));
        Edges.refuses(TextsEdges::fullBuffer, Edges.ARGUMENT, "read()", ScratchMap::read);
        Edges.refuses(ScratchMap::new, Edges.STATE, "undo()", ScratchMap::undo);
        Edges.refuses(Scenes::worn, Edges.ARGUMENT, "cell(0, 0, 4)", x -> x.cell(0, 0, 4));
        Edges.refuses(Scenes::worn, Edges.INDEX, "block(480, 0)", x -> x.block(480, 0));
        Edges.refuses(Scenes::worn, Edges.ARGUMENT, "block(0, 4)", x -> x.block(0, 4));
        Edges.refuses(Scenes::worn, Edges.INDEX, "line(1, 0)", x -> x.line(1, 0));
        Edges.refuses(Scenes::worn, Edges.ARGUMENT, "line(0, 6)", x -> x.line(0, 6));
        Edges.refuses(Scenes::worn, Edges.ARGUMENT, "count(10)", x -> x.count(10));
        Edges.refuses(Scenes::worn, Edges.INDEX, "setting(3)", x -> x.setting(3));
        Edges.refuses(Scenes::worn, Edges.ARGUMENT, "ifFailed(0, 0, 4)", x -> x.ifFailed(0, 0, 4));
        Edges.refuses(Scenes::worn, Edges.ARGUMENT, "find(1000)", x -> x.find(1000));
    }

    private static void theFirstNamedException() {
        Edges.refuses(Scenes::worn, Edges.INDEX, "write(480, 1000)", x -> x.write(480, 1000));
        Edges.refuses(Scenes::withoutRoom, Edges.INDEX, "write(-1, -1)", x -> x.write(-1, -1));
        Edges.refuses(Scenes::withoutRoom, Edges.ARGUMENT, "write(368, 1000) without room", x -> x.write(368, 1000));
        Edges.refuses(Scenes::worn, Edges.INDEX, "fill(480, 0, 1000)", x -> x.fill(480, 0, 1000));
        Edges.refuses(Scenes::worn, Edges.INDEX, "fill(432, 49, 1)", x -> x.fill(432, 49, 1));
        Edges.refuses(Scenes::worn, Edges.INDEX, "fill(479, 2, -1)", x -> x.fill(479, 2, -1));
        Edges.refuses(Scenes::withoutRoom, Edges.ARGUMENT, "fail(24, 0) with 12 spots", x -> x.fail(24, 0));
        Edges.refuses(ScratchMap::new, Edges.ARGUMENT, "heal(0, 24) without spots", x -> x.heal(0, 24));
        Edges.refuses(Scenes::worn, Edges.INDEX, "set(3, -1)", x -> x.set(3, -1));
        Edges.refuses(TextsEdges::fullBuffer, Edges.ARGUMENT, "append(32) to a full buffer", x -> x.append(32));
        Edges.refuses(Scenes::worn, Edges.INDEX, "block(480, 4)", x -> x.block(480, 4));
        Edges.refuses(Scenes::worn, Edges.INDEX, "line(1, 6)", x -> x.line(1, 6));
    }
}
