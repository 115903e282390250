import java.util.ArrayList;
import java.util.List;

/** Promises 19 to 21, 23 and 24: ifFailed, worst, untidy, goodShare, digest. */
public final class WouldBeTest {
    private static final Class<IllegalArgumentException> BAD = IllegalArgumentException.class;

    private WouldBeTest() {
    }

    public static void main(String[] args) {
        ifFailed();
        ifFailedLosesValues();
        ifFailedWhenRefused();
        ifFailedIsWhatFailDoes();
        worst();
        untidy();
        goodShare();
        digestOfNewObject();
        digestByLooks();
        looksChangeNothing();
        Due.end();
    }

    private static void fourAnswers(ScratchMap x, int track, int sector, int... due) {
        for (int what = 0; what < 4; what++) {
            Due.is("ifFailed(" + track + ", " + sector + ", " + what + ")", x.ifFailed(track, sector, what), due[what]);
        }
    }

    private static void ifFailed() {
        ScratchMap x = new ScratchMap();
        x.fill(48, 8, 4);
        Scenes.failAll(x, 2, 0, 2, 1);
        fourAnswers(x, 2, 2, 1, 2, 1, 2);
        fourAnswers(x, 2, 3, 1, 3, 1, 3);
        fourAnswers(x, 2, 5, 0, 0, 1, 0);
        fourAnswers(x, 2, 9, 0, 0, 0, 0);
        x.fail(2, 2);
        fourAnswers(x, 2, 6, 0, 0, 1, 0);
        fourAnswers(x, 2, 4, 1, 3, 1, 3);
        fourAnswers(x, 9, 9, 1, 2, 0, 2);
    }

    private static void ifFailedLosesValues() {
        ScratchMap x = Scenes.withSpots(2, 0, 2, 1, 2, 2);
        x.write(51, 1);
        Due.is("in a spare", x.block(51, 1), 480);
        fourAnswers(x, 20, 0, 1, 2, 1, 0);
        fourAnswers(x, 2, 3, 1, 2, 0, 0);
        fourAnswers(x, 20, 1, 1, 2, 0, 0);
    }

    private static void ifFailedWhenRefused() {
        ScratchMap x = Scenes.withSpots(2, 0, 2, 1, 2, 2);
        fourAnswers(x, 2, 1, -1, -1, -1, -1);
        ScratchMap y = Scenes.jammed();
        fourAnswers(y, 1, 1, -1, -1, -1, -1);
        fourAnswers(y, 20, 0, -1, -1, -1, -1);
        Due.refuses(y, BAD, "ifFailed(20, 0, 4), a spot", () -> y.ifFailed(20, 0, 4));
        Due.refuses(y, BAD, "ifFailed(1, 1, -1) with 12 spots", () -> y.ifFailed(1, 1, -1));
        y.heal(20, 0);
        Due.is("ifFailed(20, 0, 0) with 11 spots", y.ifFailed(20, 0, 0), 11);
    }

    private static void ifFailedIsWhatFailDoes() {
        ScratchMap x = new ScratchMap();
        x.fill(0, 48, 1);
        x.fill(96, 48, 1);
        Scenes.failAll(x, 0, 0, 1, 1, 0, 2, 2, 0, 4, 4);
        for (int cell = 0; cell < 150; cell++) {
            int track = cell / 24;
            int sector = cell % 24;
            int[] told = new int[4];
            for (int what = 0; what < 4; what++) {
                told[what] = x.ifFailed(track, sector, what);
            }
            if (x.cell(track, sector, 0) != 2) {
                int lost = x.count(7);
                x.fail(track, sector);
                Due.is("lines with " + cell, told[0], x.count(1));
                Due.is("avoided with " + cell, told[1], x.count(2));
                Due.is("lost with " + cell, told[2], x.count(7) - lost);
                Due.is("in bad cells with " + cell, told[3], x.count(5));
                x.undo();
            }
        }
    }

    private static void worst() {
        ScratchMap x = new ScratchMap();
        Due.is("worst() of a new object", x.worst(), -1);
        Scenes.failAll(x, 10, 8, 10, 9, 10, 11);
        Due.is("worst() of one line, the lowest", x.worst(), 246);
        Scenes.failAll(x, 8, 10, 9, 10, 11, 10);
        Due.is("two lines", x.count(1), 2);
        Due.is("worst() of two lines", x.worst(), 250);
        x.fail(10, 10);
        Due.is("it is a spot then", x.cell(10, 10, 2) > 1, true);
        Due.is("worst() of others", x.cell(x.worst() / 24, x.worst() % 24, 0), 1);
        ScratchMap y = Scenes.withSpots(10, 10, 11, 10, 12, 10, 10, 13, 10, 16, 13, 13);
        Due.is("three lines", y.count(1), 2);
        Due.is("worst() of equals", y.worst(), 202);
        Due.is("worst() is the first cell", Scenes.withSpots(0, 1, 0, 2, 0, 3).worst(), 0);
        Due.is("worst() is the last cell", cornerOfTwoLines().worst(), 575);
    }

    private static ScratchMap cornerOfTwoLines() {
        return Scenes.withSpots(23, 22, 23, 21, 23, 20, 22, 23, 21, 23, 20, 23);
    }

    private static void untidy() {
        ScratchMap x = new ScratchMap();
        Due.is("untidy() of a new object", x.untidy(), 0);
        for (int first = 0; first < 480; first += 48) {
            x.fill(first, 48, 1);
        }
        Due.is("untidy() of full homes", x.untidy(), 0);
        Scenes.farAndWide(x);
        for (int track : new int[] {2, 3, 4, 5}) {
            Scenes.jamTrack(x, track);
        }
        int bad = x.count(5);
        Due.is("in bad cells", bad, x.count(2));
        Due.is("more than 96", bad > 96, true);
        Due.is("untidy(), as far as there are spares", x.untidy(), 96);
        Due.is("untidy() moves nothing", x.count(8), 0);
        Due.is("tidy(99)", x.tidy(99), 96);
        Due.is("untidy() then", x.untidy(), 0);
        Due.is("in bad cells then", x.count(5), bad - 96);
        x.set(0, 6);
        Due.is("all good again: they come back", x.untidy(), 96);
    }

    private static void goodShare() {
        ScratchMap x = new ScratchMap();
        Due.is("goodShare() of a new object", x.goodShare(), 1.0);
        x.fail(0, 0);
        Due.is("goodShare() with a spot", x.goodShare(), 575 / 576.0);
        Scenes.failAll(x, 0, 1, 0, 2);
        Due.is("goodShare() with a line", x.goodShare(), 571 / 576.0);
        x.write(100, 1);
        Due.is("goodShare() with a value", x.goodShare(), 571 / 576.0);
        Due.is("goodShare() of the jam", Scenes.jammed().goodShare(), 466 / 576.0);
    }

    private static void digestOfNewObject() {
        long[] values = {0, 0, 0, 0, 0, 0, 96, 0, 0, 0, 3, 3, 2, 0, 0, 0, 0, 0, 0, 0, 0, 0, 0, 0, 0, -1, 0,
            Double.doubleToLongBits(1.0), 0};
        long hash = 2851;
        for (long value : values) {
            hash = 31 * hash + value;
        }
        Due.is("digest() of a new object", new ScratchMap().digest(), hash);
    }

    /** The list of promise 24, from the other looks. */
    private static long digestOf(ScratchMap x, String buffer) {
        List<Long> values = new ArrayList<>();
        for (int what = 0; what < 10; what++) {
            values.add((long) x.count(what));
        }
        for (int setting = 0; setting < 3; setting++) {
            values.add((long) x.setting(setting));
        }
        for (int spot = 0; spot < x.count(0); spot++) {
            for (int cell = 0; cell < 576; cell++) {
                if (x.cell(cell / 24, cell % 24, 3) == spot) {
                    values.add((long) cell);
                }
            }
        }
        for (int i = 0; i < x.count(1) * 6; i++) {
            values.add((long) x.line(i / 6, i % 6));
        }
        for (int cell = 0; cell < 576; cell++) {
            if (x.cell(cell / 24, cell % 24, 0) == 1) {
                values.add((long) cell);
                values.add((long) x.cell(cell / 24, cell % 24, 2));
            }
        }
        for (int block = 0; block < 480; block++) {
            if (x.block(block, 0) >= 0) {
                values.addAll(List.of((long) block, (long) x.block(block, 0), (long) x.block(block, 1)));
            }
        }
        for (int i = 0; i < 12; i++) {
            int[] tracks = {2, 10, 21};
            int[] sectors = {3, 10, 5};
            values.add((long) x.ifFailed(tracks[i / 4], sectors[i / 4], i % 4));
        }
        values.add((long) x.worst());
        values.add((long) x.untidy());
        values.add(Double.doubleToLongBits(x.goodShare()));
        values.add((long) buffer.length());
        buffer.chars().forEach(code -> values.add((long) code));
        long hash = 2851;
        for (long value : values) {
            hash = 31 * hash + value;
        }
        return hash;
    }

    private static void digestByLooks() {
        ScratchMap x = new ScratchMap();
        x.fill(40, 30, 77);
        x.fill(240, 20, 78);
        Scenes.failAll(x, 2, 1, 2, 2, 10, 8, 10, 9, 21, 3, 21, 4);
        Due.is("digest() with spots", x.digest(), digestOf(x, ""));
        Scenes.type(x, "~!0,-;");
        Due.is("digest() with a text", x.digest(), digestOf(x, "~!0,-;"));
        Scenes.failAll(x, 2, 3, 10, 10);
        x.tidy(1);
        x.set(2, 5);
        x.write(53, 4);
        Due.is("digest() with lines", x.digest(), digestOf(x, "~!0,-;"));
        x.clearBuffer();
        x.undo();
        Due.is("digest() after undo()", x.digest(), digestOf(x, ""));
        ScratchMap y = Scenes.jammed();
        y.fill(330, 30, 999);
        Due.is("digest() of the jam", y.digest(), digestOf(y, ""));
        ScratchMap first = Scenes.withSpots(0, 1, 0, 2, 0, 3);
        first.write(0, 8);
        Due.is("digest() with the first cell avoided", first.digest(), digestOf(first, ""));
        first.set(2, 0);
        first.write(0, 8);
        Due.is("digest() with the first block", first.digest(), digestOf(first, ""));
        ScratchMap last = cornerOfTwoLines();
        last.write(479, 8);
        Due.is("digest() with the last cell avoided", last.digest(), digestOf(last, ""));
        shares();
    }

    /** The bits of many shares. */
    private static void shares() {
        ScratchMap x = new ScratchMap();
        Scenes.farAndWide(x);
        for (int spot = 0; spot < 12; spot++) {
            x.fail(spot % 4 * 3, spot / 4 * 7 + spot % 3);
            Due.is("digest() with " + spot + " more spots", x.digest(), digestOf(x, ""));
        }
        for (int beyond = 0; beyond < 7; beyond++) {
            x.set(2, beyond);
            Due.is("digest() with beyond " + beyond, x.digest(), digestOf(x, ""));
        }
    }

    private static void looksChangeNothing() {
        ScratchMap x = new ScratchMap();
        x.fill(0, 48, 5);
        Scenes.failAll(x, 0, 0, 1, 1, 2, 2, 20, 0);
        Scenes.type(x, "1,");
        String before = Picture.of(x);
        Due.is("all looks again", Picture.of(x), before);
        x.ifFailed(3, 3, 3);
        x.ifFailed(0, 5, 0);
        x.untidy();
        x.worst();
        x.find(5);
        x.goodShare();
        x.digest();
        x.firstError();
        Due.is("nothing is changed", Picture.of(x), before);
    }
}
