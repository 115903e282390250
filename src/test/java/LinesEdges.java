/** The sentences of the terms about steps, lines and their cells. */
final class LinesEdges {
    /** Along a track, along a sector, and aslant both ways. */
    private static final int[][] WAYS = {{0, 1}, {1, 0}, {1, 1}, {1, -1}};

    private LinesEdges() {
    }

    static void all(Sentences s) {
        s.hold(0, "Between two spots there are steps: let dt and ds be the differences of their tracks and sectors,"
            + " and g the greatest common divisor of their sizes: there are g steps of dt / g tracks and ds / g sectors.", LinesEdges::steps);
        s.hold(0, "A line is made of all spots that lie on one straight line (in tracks and sectors),", LinesEdges::straight);
        s.hold(0, "if they are at least as many as setting 0 tells,", LinesEdges::enoughSpots);
        s.hold(0, "and each two neighbours of them on it have at most setting 1 steps between them.", LinesEdges::nearEnough);
        s.hold(0, "(If any neighbours are farther apart, this straight line makes no line at all.)", LinesEdges::anyGapUndoesAll);
        s.hold(0, "Lines are in an order: by their first spots, then by their second spots, as the spots came.", LinesEdges::order);
        s.hold(0, "Its cells are all cells to which one gets from one of its spots by steps (those between neighbours of it,"
            + " with no common divisor) between its two outermost spots,", LinesEdges::cellsBetween);
        s.hold(0, "and up to setting 2 such steps beyond each of these,", LinesEdges::cellsBeyond);
        s.hold(0, "as far as there are cells.", LinesEdges::asFarAsThereAreCells);
        s.hold(0, "A cell is avoided if it is a cell of some line, and no spot.", LinesEdges::avoided);
        s.hold(0, "A cell is good if it is neither a spot nor avoided.", LinesEdges::good);
    }

    /** A drive with these settings. */
    private static ScratchMap set(int spots, int between, int beyond) {
        ScratchMap x = new ScratchMap();
        x.set(0, spots);
        x.set(1, between);
        x.set(2, beyond);
        return x;
    }

    private static void step(String name, int between, int tracks, int sectors, int... places) {
        ScratchMap x = set(3, between, 0);
        Scenes.failAll(x, places);
        Due.is(name + ": lines", x.count(1), 1);
        Due.is(name + ": tracks of a step", Due.outcome(() -> x.line(0, 4)), tracks);
        Due.is(name + ": sectors of a step", Due.outcome(() -> x.line(0, 5)), sectors + 24);
        if (between > 1) {
            x.set(1, between - 1);
            Due.is(name + ": lines with fewer steps between", x.count(1), 0);
        }
    }

    private static void steps() {
        step("g is 1, the longest step", 1, 11, 1, 0, 0, 11, 1, 22, 2);
        step("g is 1, the longest step the other way", 1, 11, -1, 0, 22, 11, 21, 22, 20);
        step("g is 1, one track, 11 sectors back", 1, 1, -11, 5, 23, 6, 12, 7, 1);
        step("g is 1, one track, 11 sectors", 1, 1, 11, 5, 0, 6, 11, 7, 22);
        step("g is 5 of 10 and 5", 5, 2, 1, 0, 0, 10, 5, 20, 10);
        step("g is 2 of 4 and 6", 2, 2, 3, 0, 0, 4, 6, 8, 12);
        step("g is 3 of 9 and 6", 3, 3, -2, 1, 20, 10, 14, 19, 8);
        step("g is 8 of 8 and 8", 8, 1, 1, 0, 0, 8, 8, 16, 16);
        step("g is 8 of 0 and 8", 8, 0, 1, 3, 0, 3, 8, 3, 16);
        step("g is 8 of 8 and 0", 8, 1, 0, 0, 3, 8, 3, 16, 3);
        step("g is 7 of 0 and 7, backwards", 7, 0, 1, 23, 23, 23, 16, 23, 9);
        step("g is 7 of 7 and 0, backwards", 7, 1, 0, 23, 23, 16, 23, 9, 23);
    }

    private static void straight() {
        int[][] crooked = {{0, 0, 1, 1, 2, 3}, {0, 0, 0, 1, 1, 2}, {5, 5, 6, 5, 8, 6}, {10, 10, 11, 12, 13, 15}, {0, 0, 1, 0, 1, 1}};
        int[][] wrapped = {{0, 22, 0, 23, 1, 0}, {0, 23, 1, 0, 1, 1}, {4, 22, 5, 23, 7, 0}, {4, 1, 5, 0, 5, 23}};
        for (int[] places : crooked) {
            Due.is("crooked: lines", Scenes.withSpots(places).count(1), 0);
        }
        for (int[] places : wrapped) {
            Due.is("straight in cell numbers alone: lines", Scenes.withSpots(places).count(1), 0);
        }
        ScratchMap x = Scenes.withSpots(9, 12, 2, 2, 9, 14, 4, 4, 9, 13, 3, 3, 9, 15, 0, 0);
        Due.is("two straight lines: lines", x.count(1), 2);
        Due.is("all spots of the first", x.line(0, 0), 0b01010101);
        Due.is("all spots of the second, and the one of (0, 0)", x.line(1, 0), 0b10101010);
        ScratchMap y = new ScratchMap();
        for (int sector = 0; sector < 12; sector++) {
            y.fail(23, 12 + sector);
        }
        Due.is("12 spots on one: lines", y.count(1), 1);
        Due.is("12 spots on one: its spots", y.line(0, 0), 0b111111111111);
    }

    private static void enoughSpots() {
        for (int needed = 3; needed <= 6; needed++) {
            ScratchMap x = set(needed, 1, 0);
            for (int spots = 1; spots <= 7; spots++) {
                Due.is(spots + " spots of " + needed, x.fail(8 + spots, 3 + spots), spots < needed ? 0 : 1);
            }
            for (int spots = 6; spots >= 1; spots--) {
                Due.is(spots + " spots are left of " + needed, x.heal(9 + spots, 4 + spots), spots < needed ? 0 : 1);
            }
        }
    }

    private static int linesWithGaps(int[] way, int between, int... gaps) {
        ScratchMap x = set(3, between, 0);
        int track = 0;
        int sector = way[1] < 0 ? 23 : 0;
        x.fail(track, sector);
        for (int gap : gaps) {
            track += gap * way[0];
            sector += gap * way[1];
            x.fail(track, sector);
        }
        return x.count(1);
    }

    private static void nearEnough() {
        for (int[] way : WAYS) {
            for (int between = 1; between <= 8; between++) {
                String name = "steps of (" + way[0] + ", " + way[1] + "), at most " + between;
                Due.is(name + ", just as many", linesWithGaps(way, between, between, between), 1);
                Due.is(name + ", the first are more", linesWithGaps(way, between, between + 1, between), 0);
                Due.is(name + ", the second are more", linesWithGaps(way, between, between, between + 1), 0);
                Due.is(name + ", one less", linesWithGaps(way, between + 1 > 8 ? 8 : between + 1, between, between), 1);
            }
        }
        Due.is("a step of (2, 1), two at most", lines(2, 0, 0, 4, 2, 8, 4), 1);
        Due.is("a step of (2, 1), three", lines(2, 0, 0, 4, 2, 10, 5), 0);
    }

    private static int lines(int between, int... places) {
        ScratchMap x = set(3, between, 0);
        Scenes.failAll(x, places);
        return x.count(1);
    }

    private static void anyGapUndoesAll() {
        for (int[] way : WAYS) {
            String name = "steps of (" + way[0] + ", " + way[1] + "), ";
            Due.is(name + "a wide gap behind three", linesWithGaps(way, 3, 1, 1, 4), 0);
            Due.is(name + "a wide gap ahead of three", linesWithGaps(way, 3, 4, 1, 1), 0);
            Due.is(name + "a wide gap between three and three", linesWithGaps(way, 3, 1, 1, 4, 1, 1), 0);
            Due.is(name + "no wide gap", linesWithGaps(way, 3, 1, 1, 3, 1, 1), 1);
        }
        ScratchMap x = Scenes.withSpots(0, 0, 0, 1, 0, 2);
        Due.is("a far spot undoes the line", x.fail(0, 23), 0);
        Due.is("avoided then", x.count(2), 0);
        Due.is("without it there is the line again", x.heal(0, 23), 1);
    }

    private static void order() {
        ScratchMap x = Scenes.withSpots(12, 12, 0, 0, 12, 13, 0, 1, 13, 12, 1, 0, 14, 12, 2, 0, 12, 14, 0, 2);
        int[] masks = {1 << 0 | 1 << 2 | 1 << 8, 1 << 0 | 1 << 4 | 1 << 6, 1 << 1 | 1 << 3 | 1 << 9, 1 << 1 | 1 << 5 | 1 << 7};
        Due.is("lines", x.count(1), 4);
        for (int line = 0; line < masks.length; line++) {
            Due.is("line(" + line + ", 0)", x.line(line, 0), masks[line]);
        }
        x.heal(12, 12);
        x.fail(12, 12);
        int[] then = {1 << 0 | 1 << 2 | 1 << 8, 1 << 0 | 1 << 4 | 1 << 6, 1 << 1 | 1 << 7 | 1 << 9, 1 << 3 | 1 << 5 | 1 << 9};
        for (int line = 0; line < then.length; line++) {
            Due.is("line(" + line + ", 0) when its first spot came again", x.line(line, 0), then[line]);
        }
        ScratchMap y = Scenes.withSpots(2, 2, 1, 1, 0, 0, 4, 0, 3, 1);
        Due.is("a spot of two lines: by the second spots, not the cells", y.count(1) * 100 + y.line(0, 0), 207);
        Due.is("the line whose second spot came later", y.line(1, 0), 25);
    }

    private static void cellsBetween() {
        ScratchMap x = set(3, 3, 0);
        Scenes.failAll(x, 5, 9, 5, 5, 5, 7);
        Edges.avoids("every second along a track", x, 126, 128);
        ScratchMap y = set(3, 3, 0);
        Scenes.failAll(y, 0, 0, 4, 6, 10, 15);
        Edges.avoids("steps of (2, 3)", y, 51, 6 * 24 + 9, 8 * 24 + 12);
        ScratchMap z = set(3, 1, 0);
        Scenes.failAll(z, 0, 23, 1, 12, 2, 1);
        Edges.avoids("none between", z);
        Due.is("its cells are its spots", z.line(0, 2), 3);
        ScratchMap w = set(3, 8, 0);
        Scenes.failAll(w, 0, 23, 8, 15, 16, 7);
        int[] cells = new int[14];
        for (int i = 0; i < 14; i++) {
            int steps = i < 7 ? i + 1 : i + 2;
            cells[i] = 24 * steps + 23 - steps;
        }
        Edges.avoids("aslant, 8 steps each", w, cells);
        Due.is("its cells", w.line(0, 2), 17);
    }

    private static void cellsBeyond() {
        for (int[] way : WAYS) {
            for (int beyond = 0; beyond <= 6; beyond++) {
                ScratchMap x = set(3, 1, beyond);
                int[] cells = new int[2 * beyond];
                for (int steps = -1; steps <= 1; steps++) {
                    x.fail(11 + steps * way[0], 12 + steps * way[1]);
                }
                for (int steps = 1; steps <= beyond; steps++) {
                    cells[2 * steps - 2] = 24 * (11 + (1 + steps) * way[0]) + 12 + (1 + steps) * way[1];
                    cells[2 * steps - 1] = 24 * (11 - (1 + steps) * way[0]) + 12 - (1 + steps) * way[1];
                }
                Edges.avoids("steps of (" + way[0] + ", " + way[1] + "), " + beyond + " beyond", x, cells);
                Due.is("its cells", x.line(0, 2), 3 + 2 * beyond);
            }
        }
        ScratchMap y = set(3, 1, 1);
        Scenes.failAll(y, 8, 8, 11, 10, 14, 12);
        Edges.avoids("a step of (3, 2), one beyond", y, 24 * 5 + 6, 24 * 17 + 14);
    }

    private static void outTo(String name, int[] places, int... cells) {
        ScratchMap x = set(3, 3, 6);
        Scenes.failAll(x, places);
        Edges.avoids(name, x, cells);
    }

    private static void asFarAsThereAreCells() {
        outTo("up to the sector 0", new int[] {5, 5, 5, 6, 5, 7}, 120, 121, 122, 123, 124, 128, 129, 130, 131, 132, 133);
        outTo("at the sector 0", new int[] {5, 0, 5, 1, 5, 2}, 123, 124, 125, 126, 127, 128);
        outTo("at the sector 23", new int[] {4, 21, 4, 22, 4, 23}, 111, 112, 113, 114, 115, 116);
        outTo("at the track 0", new int[] {0, 5, 1, 5, 2, 5}, Edges.range(77, 197, 24));
        outTo("at the track 23", new int[] {21, 5, 22, 5, 23, 5}, Edges.range(15 * 24 + 5, 20 * 24 + 5, 24));
        outTo("at the sector 23, aslant", new int[] {1, 21, 2, 22, 3, 23}, 20);
        outTo("at the sector 0, aslant", new int[] {3, 0, 2, 1, 1, 2}, 3);
        outTo("at the sector 0, aslant downwards", new int[] {20, 0, 21, 1, 22, 2}, 23 * 24 + 3);
        outTo("at the sector 23, aslant downwards", new int[] {20, 23, 21, 22, 22, 21}, 23 * 24 + 20);
        outTo("in the corner (0, 0)", new int[] {0, 0, 1, 1, 2, 2}, Edges.range(75, 200, 25));
        outTo("in the corner (23, 23)", new int[] {21, 21, 22, 22, 23, 23}, Edges.range(375, 500, 25));
        outTo("in the corner (0, 23)", new int[] {0, 23, 1, 22, 2, 21}, Edges.range(92, 207, 23));
        outTo("in the corner (23, 0)", new int[] {21, 2, 22, 1, 23, 0}, Edges.range(368, 483, 23));
        outTo("up to the first cell", new int[] {0, 1, 0, 2, 0, 3}, 0, 4, 5, 6, 7, 8, 9);
        outTo("up to the last cell", new int[] {23, 20, 23, 21, 23, 22}, 566, 567, 568, 569, 570, 571, 575);
        outTo("a long step", new int[] {0, 0, 7, 2, 14, 4}, 21 * 24 + 6);
        outTo("no cell on either side", new int[] {0, 23, 1, 12, 2, 1});
    }

    private static void avoided() {
        ScratchMap x = Scenes.withSpots(6, 6, 6, 7, 6, 9);
        Due.is("between, no spot", x.cell(6, 8, 0), 1);
        Due.is("its spots are not avoided", x.cell(6, 6, 0) + x.cell(6, 7, 0) + x.cell(6, 9, 0), 6);
        Due.is("avoided cells", x.count(2), 5);
        Due.is("a spot is still a cell of its line", x.cell(6, 7, 2), 1);
        x.fail(6, 8);
        Due.is("a spot then", x.cell(6, 8, 0), 2);
        Due.is("avoided cells then", x.count(2), 4);
        Due.is("heal(6, 7)", x.heal(6, 7), 1);
        Due.is("healed, and avoided at once", x.cell(6, 7, 0), 1);
        Scenes.failAll(x, 5, 10, 7, 10, 8, 10);
        Due.is("a cell of two lines", x.cell(6, 10, 2), 2);
        Due.is("it is avoided once", x.count(2), 5 + 5 - 1);
    }

    private static void good() {
        ScratchMap x = Scenes.withSpots(6, 6, 6, 7, 6, 8);
        int[] due = {0, 1, 1, 2, 2, 2, 1, 1, 0};
        for (int i = 0; i < due.length; i++) {
            Due.is("cell(6, " + (3 + i) + ", 0)", x.cell(6, 3 + i, 0), due[i]);
        }
        Due.is("a spot of no line", Scenes.withSpots(3, 3).cell(3, 3, 0), 2);
        Due.is("good cells", x.goodShare(), 569.0 / 576.0);
    }
}
