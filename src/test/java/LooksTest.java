/** Promises 14 and 16 to 18: cell, line, count, setting; and the terms of lines. */
public final class LooksTest {
    private static final Class<IndexOutOfBoundsException> NO_LINE = IndexOutOfBoundsException.class;
    private static final Class<IllegalArgumentException> BAD = IllegalArgumentException.class;

    private LooksTest() {
    }

    public static void main(String[] args) {
        cell();
        cellRefuses();
        directions();
        spotsOfLines();
        stepsBetween();
        stepsBeyond();
        orderOfLines();
        manyLines();
        takenCellsOfLines();
        lineRefuses();
        count();
        setting();
        Due.end();
    }

    private static void cell() {
        ScratchMap x = new ScratchMap();
        x.fill(0, 24, 9);
        Scenes.failAll(x, 0, 2, 0, 1, 0, 0, 2, 0, 1, 1);
        int[][] due = {{0, 0, 2, -1, 1, 2}, {0, 1, 2, -1, 1, 1}, {0, 2, 2, -1, 2, 0}, {0, 3, 1, 3, 1, -1}, {0, 4, 1, 4, 1, -1},
            {0, 5, 0, 5, 0, -1}, {1, 1, 2, -1, 1, 4}, {2, 0, 2, -1, 1, 3}, {3, 0, 0, -1, 0, -1}, {23, 23, 0, -1, 0, -1}};
        for (int[] row : due) {
            for (int what = 0; what < 4; what++) {
                Due.is("cell(" + row[0] + ", " + row[1] + ", " + what + ")", x.cell(row[0], row[1], what), row[what + 2]);
            }
        }
        x.write(3, 9);
        Due.is("a spare that is taken", x.cell(20, 0, 1), 3);
        Due.is("the home that is left", x.cell(0, 3, 1), -1);
    }

    private static void cellRefuses() {
        ScratchMap x = Scenes.withSpots(0, 0);
        int[][] bad = {{-1, 0, 0}, {24, 0, 0}, {0, -1, 0}, {0, 24, 0}, {0, 0, -1}, {0, 0, 4}, {1, -24, 0}, {-1, 24, 0},
            {Integer.MIN_VALUE, 0, 0}, {0, Integer.MAX_VALUE, 0}, {0, 0, Integer.MIN_VALUE}, {0, 0, Integer.MAX_VALUE}};
        for (int[] a : bad) {
            String arguments = "(" + a[0] + ", " + a[1] + ", " + a[2] + ")";
            Due.refuses(x, BAD, "cell" + arguments, () -> x.cell(a[0], a[1], a[2]));
            Due.refuses(x, BAD, "ifFailed" + arguments, () -> x.ifFailed(a[0], a[1], a[2]));
        }
    }

    private static void onlyLine(ScratchMap x, String name, int... due) {
        Due.is(name + ": lines", x.count(1), 1);
        for (int what = 0; what < 6; what++) {
            Object answer = Due.outcome(() -> x.line(0, 0));
            Due.is(name + ": line(0, " + what + ")", answer == NO_LINE ? answer : (Object) x.line(0, what), due[what]);
        }
    }

    /** Mask, spots, cells, taken, tracks and sectors of a step. */
    private static void directions() {
        onlyLine(Scenes.withSpots(3, 7, 5, 7, 7, 7), "down", 7, 3, 9, 0, 1, 24);
        onlyLine(Scenes.withSpots(7, 7, 3, 7, 5, 7), "down, in another order", 7, 3, 9, 0, 1, 24);
        onlyLine(Scenes.withSpots(9, 9, 9, 8, 9, 7), "along", 7, 3, 7, 0, 0, 25);
        onlyLine(Scenes.withSpots(5, 5, 6, 4, 7, 3), "aslant to the left", 7, 3, 7, 0, 1, 23);
        onlyLine(Scenes.withSpots(7, 3, 6, 4, 5, 5), "aslant to the left, upwards", 7, 3, 7, 0, 1, 23);
        onlyLine(Scenes.withSpots(9, 9, 7, 7, 8, 8), "aslant to the right", 7, 3, 7, 0, 1, 25);
        onlyLine(Scenes.withSpots(0, 0, 1, 2, 2, 4), "one and two", 7, 3, 5, 0, 1, 26);
        onlyLine(Scenes.withSpots(0, 0, 4, 6, 8, 12), "two and three", 7, 3, 7, 0, 2, 27);
        onlyLine(Scenes.withSpots(0, 23, 1, 12, 2, 1), "one and minus 11", 7, 3, 3, 0, 1, 13);
        onlyLine(Scenes.withSpots(23, 0, 12, 1, 1, 2), "11 and minus one", 7, 3, 3, 0, 11, 23);
        ScratchMap x = Scenes.withSpots(0, 0, 4, 6, 8, 12);
        Due.is("between by steps", x.cell(2, 3, 0), 1);
        Due.is("between by steps, beyond", x.cell(12, 18, 0), 1);
        Due.is("not on a step", x.cell(3, 4, 0), 0);
        Due.is("beyond two steps", x.cell(14, 21, 0), 0);
    }

    private static void spotsOfLines() {
        ScratchMap x = Scenes.withSpots(4, 4, 9, 2, 4, 6, 4, 5, 4, 7);
        onlyLine(x, "four spots", 29, 4, 8, 0, 0, 25);
        x.set(0, 4);
        onlyLine(x, "four of four", 29, 4, 8, 0, 0, 25);
        x.set(0, 5);
        Due.is("four of five", x.count(1), 0);
        x.fail(4, 3);
        onlyLine(x, "five of five", 61, 5, 9, 0, 0, 25);
        x.set(0, 6);
        Due.is("five of six", x.count(1), 0);
        x.fail(4, 10);
        onlyLine(x, "six of six", 125, 6, 12, 0, 0, 25);
        x.heal(9, 2);
        onlyLine(x, "six of six, moved up", 63, 6, 12, 0, 0, 25);
    }

    private static void stepsBetween() {
        ScratchMap x = Scenes.withSpots(0, 0, 0, 1, 0, 2, 0, 6);
        Due.is("one is too far, so there is none", x.count(1), 0);
        x.set(1, 4);
        onlyLine(x, "near enough", 15, 4, 9, 0, 0, 25);
        ScratchMap y = Scenes.withSpots(0, 0, 3, 3, 6, 6);
        onlyLine(y, "three steps", 7, 3, 9, 0, 1, 25);
        y.set(1, 2);
        Due.is("three of two steps", y.count(1), 0);
        ScratchMap z = Scenes.withSpots(0, 0, 8, 0, 16, 0);
        z.set(1, 7);
        Due.is("eight of seven steps", z.count(1), 0);
        z.set(1, 8);
        onlyLine(z, "eight of eight steps", 7, 3, 19, 0, 1, 24);
        ScratchMap w = Scenes.withSpots(10, 10, 11, 12, 13, 16);
        w.set(1, 1);
        Due.is("two of one step", w.count(1), 0);
        w.set(1, 2);
        onlyLine(w, "two of two steps", 7, 3, 8, 0, 1, 26);
    }

    private static void stepsBeyond() {
        ScratchMap x = Scenes.withSpots(1, 1, 2, 2, 3, 3);
        onlyLine(x, "up to the edge", 7, 3, 6, 0, 1, 25);
        x.set(2, 0);
        onlyLine(x, "none beyond", 7, 3, 3, 0, 1, 25);
        Due.is("none avoided", x.count(2), 0);
        Due.is("no worst", x.worst(), -1);
        x.set(2, 1);
        onlyLine(x, "one beyond", 7, 3, 5, 0, 1, 25);
        x.set(2, 6);
        onlyLine(x, "six beyond", 7, 3, 10, 0, 1, 25);
        Due.is("the sixth", x.cell(9, 9, 0), 1);
        Due.is("the seventh", x.cell(10, 10, 0), 0);
        ScratchMap y = Scenes.withSpots(21, 23, 22, 23, 23, 23);
        onlyLine(y, "the last corner", 7, 3, 5, 0, 1, 24);
        ScratchMap z = Scenes.withSpots(12, 0, 12, 22, 12, 21, 12, 20);
        z.heal(12, 0);
        onlyLine(z, "not round to the next track", 7, 3, 6, 0, 0, 25);
        Due.is("the next track", z.cell(13, 0, 0), 0);
    }

    private static void orderOfLines() {
        ScratchMap x = Scenes.withSpots(10, 10, 10, 11, 11, 10, 12, 10, 10, 12);
        Due.is("lines", x.count(1), 2);
        Due.is("first: by its second spot", x.line(0, 0), 19);
        Due.is("second", x.line(1, 0), 13);
        Due.is("the first one's step", x.line(0, 5), 25);
        Due.is("the second one's step", x.line(1, 4), 1);
        ScratchMap y = Scenes.withSpots(5, 5, 0, 0, 0, 1, 0, 2, 6, 5, 7, 5);
        Due.is("by first spots", y.line(0, 0), 49);
        Due.is("by first spots, then", y.line(1, 0), 14);
        y.heal(5, 5);
        Due.is("only one is left", y.count(1), 1);
        y.fail(5, 5);
        Due.is("in another order", y.line(0, 0), 7);
        Due.is("in another order, then", y.line(1, 0), 56);
    }

    private static void manyLines() {
        ScratchMap x = Scenes.withSpots(5, 5, 5, 6, 5, 7, 6, 5, 6, 6, 6, 7, 7, 5, 7, 6, 7, 7);
        int[] masks = {7, 73, 273, 146, 84, 292, 56, 448};
        Due.is("lines of a square", x.count(1), masks.length);
        for (int line = 0; line < masks.length; line++) {
            Due.is("line(" + line + ", 0)", x.line(line, 0), masks[line]);
        }
        Due.is("lines of its middle", x.cell(6, 6, 2), 4);
        Scenes.failAll(x, 5, 8, 6, 8, 7, 8);
        Due.is("lines of three rows of four", x.count(1), 11);
        Due.is("jammed", Scenes.jammed().count(1), 11);
    }

    private static void takenCellsOfLines() {
        ScratchMap x = new ScratchMap();
        x.fill(0, 5, 1);
        Scenes.failAll(x, 0, 0, 0, 2, 0, 3);
        onlyLine(x, "with values", 7, 3, 6, 2, 0, 25);
        x.drop(4);
        Due.is("without a value", x.line(0, 3), 1);
        x.write(5, 1);
        Due.is("written to a spare", x.line(0, 3), 1);
        x.write(1, 1);
        Due.is("moved to a spare", x.line(0, 3), 0);
        Scenes.failAll(x, 20, 2, 20, 4, 20, 3);
        Due.is("spares that are avoided and taken", x.line(1, 3), 2);
    }

    private static void lineRefuses() {
        ScratchMap x = Scenes.withSpots(0, 0, 0, 1);
        Due.refuses(x, NO_LINE, "line(0, 0) without lines", () -> x.line(0, 0));
        x.fail(0, 2);
        for (int line : new int[] {-1, 1, 2, 22, 23, Integer.MIN_VALUE, Integer.MAX_VALUE}) {
            Due.refuses(x, NO_LINE, "line(" + line + ", 0)", () -> x.line(line, 0));
            Due.refuses(x, NO_LINE, "line(" + line + ", 6)", () -> x.line(line, 6));
        }
        for (int what : new int[] {-1, 6, Integer.MIN_VALUE, Integer.MAX_VALUE}) {
            Due.refuses(x, BAD, "line(0, " + what + ")", () -> x.line(0, what));
        }
        x.heal(0, 2);
        Due.refuses(x, NO_LINE, "line(0, 0) when it went", () -> x.line(0, 0));
    }

    private static void count() {
        ScratchMap x = new ScratchMap();
        x.fill(0, 6, 1);
        Scenes.failAll(x, 0, 0, 0, 1, 0, 2, 20, 5);
        x.write(3, 1);
        int[] due = {4, 1, 2, 3, 1, 1, 94, 3, 1, 6};
        for (int what = 0; what < 10; what++) {
            Due.is("count(" + what + ")", x.count(what), due[what]);
        }
        Scenes.failAll(x, 20, 6, 20, 7);
        int[] then = {6, 2, 6, 3, 1, 1, 88, 3, 1, 6};
        for (int what = 0; what < 10; what++) {
            Due.is("count(" + what + ") then", x.count(what), then[what]);
        }
        for (int what : new int[] {-1, 10, Integer.MIN_VALUE, Integer.MAX_VALUE}) {
            Due.refuses(x, BAD, "count(" + what + ")", () -> x.count(what));
        }
    }

    private static void setting() {
        ScratchMap x = new ScratchMap();
        x.set(0, 6);
        x.set(1, 8);
        x.set(2, 0);
        Due.is("setting(0)", x.setting(0), 6);
        Due.is("setting(1)", x.setting(1), 8);
        Due.is("setting(2)", x.setting(2), 0);
        for (int setting : new int[] {-1, 3, Integer.MIN_VALUE, Integer.MAX_VALUE}) {
            Due.refuses(x, NO_LINE, "setting(" + setting + ")", () -> x.setting(setting));
        }
    }
}
