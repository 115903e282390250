/** Promises 5 to 8 and 13: fail, heal, tidy, set, undo. */
public final class SpotsTest {
    private static final Class<IndexOutOfBoundsException> NO_SETTING = IndexOutOfBoundsException.class;
    private static final Class<IllegalArgumentException> BAD = IllegalArgumentException.class;
    private static final Class<IllegalStateException> CANNOT = IllegalStateException.class;

    private SpotsTest() {
    }

    public static void main(String[] args) {
        fail();
        failLosesValues();
        failRefuses();
        heal();
        healKeepsTheOrder();
        tidyMovesAndBringsBack();
        tidyFirstAndLast();
        tidyFreesAtOnce();
        tidyIsOnePass();
        tidyWithoutRoom();
        tidyRefuses();
        set();
        setRefuses();
        undoOfEach();
        undoSixStates();
        Due.end();
    }

    private static void fail() {
        ScratchMap x = new ScratchMap();
        Due.is("fail(0, 0)", x.fail(0, 0), 0);
        Due.is("fail(2, 2)", x.fail(2, 2), 0);
        Due.is("fail(1, 1)", x.fail(1, 1), 1);
        Due.is("fail(0, 2)", x.fail(0, 2), 1);
        Due.is("fail(2, 0), a cross then", x.fail(2, 0), 2);
        Due.is("fail(1, 0)", x.fail(1, 0), 3);
        Due.is("fail(23, 23)", x.fail(23, 23), 2);
        Due.is("spots", x.count(0), 7);
        Due.is("the diagonal is too far apart", x.cell(3, 3, 0), 0);
        Due.is("saved", x.count(9), 6);
    }

    private static void failLosesValues() {
        ScratchMap x = new ScratchMap();
        x.write(0, 5);
        x.write(2, 7);
        x.fail(0, 0);
        Due.is("lost", x.count(7), 1);
        Due.is("no value", x.block(0, 0), -1);
        Due.is("nowhere", x.block(0, 1), -1);
        Due.is("not taken", x.cell(0, 0, 1), -1);
        Scenes.failAll(x, 0, 1, 0, 3);
        Due.is("an avoided cell keeps its value", x.block(2, 0), 7);
        Due.is("written to a spare", x.write(0, 6), 480);
        x.fail(20, 0);
        Due.is("lost from a spare", x.count(7), 2);
        Due.is("no value again", x.block(0, 0), -1);
        x.heal(20, 0);
        Due.is("not back by healing", x.block(0, 0), -1);
        Due.is("values", x.count(3), 1);
        x.fail(20, 0);
        Due.is("nothing there to lose", x.count(7), 2);
    }

    private static void failRefuses() {
        ScratchMap x = Scenes.withSpots(0, 0, 23, 23);
        int[][] bad = {{-1, 0}, {24, 0}, {0, -1}, {0, 24}, {Integer.MIN_VALUE, 0}, {0, Integer.MAX_VALUE}, {24, -24}, {-1, 24}};
        for (int[] a : bad) {
            Due.refuses(x, BAD, "fail(" + a[0] + ", " + a[1] + ")", () -> x.fail(a[0], a[1]));
            Due.refuses(x, BAD, "heal(" + a[0] + ", " + a[1] + ")", () -> x.heal(a[0], a[1]));
        }
        Due.refuses(x, CANNOT, "fail(0, 0), a spot", () -> x.fail(0, 0));
        Due.refuses(x, CANNOT, "fail(23, 23), a spot", () -> x.fail(23, 23));
        Due.refuses(x, CANNOT, "heal(0, 1), no spot", () -> x.heal(0, 1));
        Scenes.failAll(x, 4, 0, 8, 0, 12, 0, 16, 0, 0, 5, 4, 6, 8, 7, 12, 9, 16, 11);
        Due.is("11 spots", x.count(0), 11);
        x.fail(20, 23);
        Due.refuses(x, CANNOT, "fail(1, 1), the 13th", () -> x.fail(1, 1));
        Due.refuses(x, BAD, "fail(24, 1) with 12 spots", () -> x.fail(24, 1));
        x.heal(20, 23);
        x.fail(1, 1);
        Due.is("12 spots again", x.count(0), 12);
    }

    private static void heal() {
        ScratchMap x = Scenes.withSpots(5, 5, 5, 6, 5, 7, 5, 8);
        Due.is("heal(5, 6)", x.heal(5, 6), 1);
        Due.is("it is avoided then", x.cell(5, 6, 0), 1);
        Due.is("heal(5, 7), no line then", x.heal(5, 7), 0);
        Due.is("good again", x.cell(5, 7, 0), 0);
        Due.is("no avoided cells", x.count(2), 0);
        Due.is("spots", x.count(0), 2);
        Due.is("saved", x.count(9), 6);
        Due.refuses(x, CANNOT, "heal(5, 7) again", () -> x.heal(5, 7));
        ScratchMap y = Scenes.withSpots(0, 0, 0, 3, 0, 6, 0, 20);
        Due.is("no line, as one is far", y.count(1), 0);
        Due.is("a line without it", y.heal(0, 20), 1);
    }

    private static void healKeepsTheOrder() {
        ScratchMap x = Scenes.withSpots(9, 9, 3, 3, 7, 7, 1, 1);
        x.heal(3, 3);
        Due.is("first", x.cell(9, 9, 3), 0);
        Due.is("second", x.cell(7, 7, 3), 1);
        Due.is("third", x.cell(1, 1, 3), 2);
        Due.is("healed", x.cell(3, 3, 3), -1);
        x.fail(3, 3);
        Due.is("it comes last", x.cell(3, 3, 3), 3);
        x.heal(3, 3);
        Due.is("the last one healed", x.count(0), 3);
        x.heal(9, 9);
        Due.is("the first one healed", x.cell(7, 7, 3), 0);
    }

    private static void tidyMovesAndBringsBack() {
        ScratchMap x = new ScratchMap();
        x.fill(3, 3, 8);
        Scenes.failAll(x, 0, 0, 0, 1, 0, 2);
        Due.is("untidy", x.untidy(), 2);
        Due.is("tidy(1)", x.tidy(1), 1);
        Due.is("the lower block goes first", x.block(3, 1), 480);
        Due.is("the other stays", x.block(4, 1), 4);
        Due.is("tidy(99)", x.tidy(99), 1);
        Due.is("where 4 is", x.block(4, 1), 481);
        Due.is("where 5 is", x.block(5, 1), 5);
        Due.is("tidy(1), nothing to do", x.tidy(1), 0);
        Due.is("moves", x.count(8), 2);
        x.heal(0, 2);
        Due.is("tidy(1), back home", x.tidy(1), 1);
        Due.is("3 is at home", x.block(3, 1), 3);
        Due.is("its value", x.block(3, 0), 8);
        Due.is("its spare is free", x.cell(20, 0, 1), -1);
        Due.is("4 is not yet", x.block(4, 1), 481);
        Due.is("tidy(2)", x.tidy(2), 1);
        Due.is("4 is at home", x.cell(0, 4, 1), 4);
        Due.is("moves", x.count(8), 4);
        Due.is("no spares", x.count(4), 0);
    }

    private static void tidyFirstAndLast() {
        ScratchMap x = new ScratchMap();
        x.write(0, 1);
        x.write(479, 2);
        Scenes.failAll(x, 0, 1, 0, 2, 0, 3, 19, 22, 19, 21, 19, 20);
        Due.is("untidy", x.untidy(), 2);
        Due.is("tidy(99)", x.tidy(99), 2);
        Due.is("the first block", x.block(0, 1), 480);
        Due.is("the last block", x.block(479, 1), 481);
        x.set(2, 0);
        Due.is("tidy(99), back", x.tidy(99), 2);
        Due.is("the first block is at home", x.block(0, 1), 0);
        Due.is("the last block is at home", x.block(479, 1), 479);
    }

    private static void tidyFreesAtOnce() {
        ScratchMap x = new ScratchMap();
        x.write(416, 1);
        Scenes.jam(x);
        x.write(336, 2);
        Due.is("set(2, 5)", x.set(2, 5), 6);
        int[] others = {360, 368, 376, 384, 392, 400, 408};
        int[] spares = {502, 526, 527, 550, 551, 574, 575};
        for (int i = 0; i < others.length; i++) {
            Due.is("write(" + others[i] + ", 3)", x.write(others[i], 3), spares[i]);
        }
        Due.is("no spare is free", x.count(6), 0);
        Due.is("one is in a bad cell", x.count(5), 1);
        Due.is("untidy", x.untidy(), 2);
        Due.is("tidy(99)", x.tidy(99), 2);
        Due.is("336 came back", x.block(336, 1), 336);
        Due.is("416 has its spare", x.block(416, 1), 503);
        Due.is("tidy(99) again", x.tidy(99), 0);
    }

    private static void tidyIsOnePass() {
        ScratchMap x = new ScratchMap();
        x.write(360, 1);
        Scenes.farAndWide(x);
        Scenes.jamTrack(x, 20);
        x.fail(19, 23);
        Due.is("write(479, 4)", x.write(479, 4), 503);
        x.heal(19, 23);
        Scenes.jamTrack(x, 21);
        Scenes.jamTrack(x, 22);
        Scenes.jamTrack(x, 23);
        Due.is("write(336, 2)", x.write(336, 2), 527);
        Due.is("write(344, 2)", x.write(344, 2), 551);
        Due.is("write(352, 2)", x.write(352, 2), 575);
        Due.is("untidy", x.untidy(), 1);
        Due.is("tidy(99)", x.tidy(99), 1);
        Due.is("479 came back", x.block(479, 1), 479);
        Due.is("360 was passed by then", x.block(360, 1), 360);
        Due.is("untidy, the next pass", x.untidy(), 1);
        Due.is("tidy(99), the next pass", x.tidy(99), 1);
        Due.is("where 360 is", x.block(360, 1), 503);
    }

    private static void tidyWithoutRoom() {
        ScratchMap x = new ScratchMap();
        x.write(368, 1);
        x.write(384, 2);
        x.write(416, 3);
        Scenes.jam(x);
        x.fill(336, 1, 4);
        x.fill(344, 1, 4);
        x.fill(352, 1, 4);
        Due.is("one spare is free", x.count(6), 1);
        Due.is("untidy", x.untidy(), 1);
        Due.is("tidy(99)", x.tidy(99), 1);
        Due.is("368 got it", x.block(368, 1), 575);
        Due.is("384 stays", x.block(384, 1), 384);
        Due.is("two are in bad cells", x.count(5), 2);
        Due.is("untidy, but no room", x.untidy(), 0);
        Due.is("tidy(99), but no room", x.tidy(99), 0);
    }

    private static void tidyRefuses() {
        ScratchMap x = new ScratchMap();
        x.write(1, 1);
        for (int moves : new int[] {0, -1, 100, Integer.MIN_VALUE, Integer.MAX_VALUE}) {
            Due.refuses(x, BAD, "tidy(" + moves + ")", () -> x.tidy(moves));
        }
        Due.is("tidy(1)", x.tidy(1), 0);
        Due.is("tidy(99)", x.tidy(99), 0);
        Due.is("saved also without moves", x.count(9), 3);
    }

    private static void set() {
        ScratchMap x = Scenes.withSpots(3, 0, 3, 4, 3, 8);
        Due.is("4 steps are too many", x.count(1), 0);
        Due.is("set(1, 4)", x.set(1, 4), 3);
        Due.is("4 steps are enough", x.count(1), 1);
        Due.is("avoided", x.count(2), 8);
        Due.is("set(2, 6)", x.set(2, 6), 2);
        Due.is("farther", x.count(2), 12);
        Due.is("set(2, 0)", x.set(2, 0), 6);
        Due.is("just between", x.count(2), 6);
        Due.is("set(0, 4)", x.set(0, 4), 3);
        Due.is("three are too few", x.count(1), 0);
        Due.is("set(0, 6)", x.set(0, 6), 4);
        Due.is("set(0, 3)", x.set(0, 3), 6);
        Due.is("enough again", x.count(1), 1);
        Due.is("set(1, 8)", x.set(1, 8), 4);
        Due.is("set(1, 1)", x.set(1, 1), 8);
        Due.is("set(1, 1) again", x.set(1, 1), 1);
        Due.is("no line", x.count(1), 0);
        x.undo();
        Due.is("the same value is saved too", x.setting(1), 1);
        x.undo();
        Due.is("undone", x.setting(1), 8);
        Due.is("the line is back", x.count(1), 1);
    }

    private static void setRefuses() {
        ScratchMap x = new ScratchMap();
        x.set(2, 1);
        for (int setting : new int[] {-1, 3, Integer.MIN_VALUE, Integer.MAX_VALUE}) {
            Due.refuses(x, NO_SETTING, "set(" + setting + ", 3)", () -> x.set(setting, 3));
            Due.refuses(x, NO_SETTING, "set(" + setting + ", 100)", () -> x.set(setting, 100));
        }
        int[][] bad = {{0, 2}, {0, 7}, {1, 0}, {1, 9}, {2, -1}, {2, 7}, {0, Integer.MIN_VALUE}, {2, Integer.MAX_VALUE}};
        for (int[] a : bad) {
            Due.refuses(x, BAD, "set(" + a[0] + ", " + a[1] + ")", () -> x.set(a[0], a[1]));
        }
    }

    private static void undoOfEach() {
        ScratchMap x = new ScratchMap();
        x.fill(0, 48, 3);
        Scenes.failAll(x, 1, 0, 1, 1, 1, 2);
        x.tidy(1);
        Due.Call[] calls = {() -> x.write(27, 9), () -> x.write(28, 9), () -> x.fill(20, 30, 4), () -> x.drop(5), () -> x.drop(400),
            () -> x.fail(1, 4), () -> x.fail(20, 0), () -> x.heal(1, 0), () -> x.tidy(99), () -> x.set(0, 4), () -> x.set(1, 3),
            () -> x.read()};
        for (int i = 0; i < calls.length; i++) {
            x.clearBuffer();
            Scenes.type(x, "1,3;-1,0;1,3");
            String before = Picture.withoutSavedStates(x);
            calls[i].answer();
            Due.is("undo() of call " + i + ": saved", x.count(9), 6);
            Due.is("undo() of call " + i, x.undo(), 5);
            Due.is("after undo() of call " + i, Picture.withoutSavedStates(x), before);
            x.tidy(1);
        }
        Due.is("the buffer is not restored", x.clearBuffer(), 0);
    }

    private static void undoSixStates() {
        ScratchMap x = new ScratchMap();
        Due.refuses(x, CANNOT, "undo() of a new object", () -> x.undo());
        for (int value = 0; value < 9; value++) {
            x.write(7, value);
            Due.is("saved after " + value, x.count(9), Math.min(6, value + 1));
        }
        for (int left = 5; left >= 0; left--) {
            Due.is("undo()", x.undo(), left);
            Due.is("value after undo()", x.block(7, 0), left + 2);
        }
        Due.refuses(x, CANNOT, "undo() after six", () -> x.undo());
        Due.is("the oldest state that is left", x.block(7, 0), 2);
        x.write(7, 50);
        x.write(7, 51);
        Due.is("undo() after new writes", x.undo(), 1);
        x.write(7, 52);
        x.undo();
        Due.is("value 50", x.block(7, 0), 50);
        x.undo();
        Due.is("value 2", x.block(7, 0), 2);
    }
}
