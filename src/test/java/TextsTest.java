/** Promises 9 to 12: append, clearBuffer, firstError, read. */
public final class TextsTest {
    private static final Class<IllegalArgumentException> BAD = IllegalArgumentException.class;
    private static final Class<IllegalStateException> FULL = IllegalStateException.class;

    private TextsTest() {
    }

    public static void main(String[] args) {
        appendCodes();
        appendUpToSixty();
        clearBuffer();
        texts();
        everyCode();
        read();
        readHeals();
        readStops();
        readWholeBuffer();
        readLosesValues();
        Due.end();
    }

    private static void appendCodes() {
        ScratchMap x = new ScratchMap();
        Due.is("append(33)", x.append(33), 1);
        Due.is("append(126)", x.append(126), 2);
        for (int code : new int[] {32, 127, 0, -1, Integer.MIN_VALUE, Integer.MAX_VALUE}) {
            Due.refuses(x, BAD, "append(" + code + ")", () -> x.append(code));
        }
        Due.is("append(48)", x.append(48), 3);
        Due.is("append is not undoable", x.count(9), 0);
    }

    private static void appendUpToSixty() {
        ScratchMap x = new ScratchMap();
        for (int length = 1; length <= 60; length++) {
            Due.is("append of character " + length, x.append('a'), length);
        }
        Due.refuses(x, FULL, "append('a'), the 61st", () -> x.append('a'));
        Due.refuses(x, BAD, "append(32), the 61st", () -> x.append(32));
        Due.is("clearBuffer()", x.clearBuffer(), 60);
        Due.is("append('b') then", x.append('b'), 1);
    }

    private static void clearBuffer() {
        ScratchMap x = new ScratchMap();
        Scenes.type(x, "1,1");
        Due.is("clearBuffer()", x.clearBuffer(), 3);
        Due.is("clearBuffer() again", x.clearBuffer(), 0);
        Due.is("clearBuffer() is not undoable", x.count(9), 0);
        Due.is("firstError()", x.firstError(), 0);
        Scenes.type(x, "2,2");
        Due.is("read()", x.read(), 1);
        Due.is("just the new text", x.cell(1, 1, 0), 0);
    }

    /** A text, where its first error is, and whether it is whole. */
    private static void text(String text, int error, boolean whole) {
        ScratchMap x = new ScratchMap();
        x.fail(9, 9);
        Scenes.type(x, text);
        Due.is("firstError() of " + text, x.firstError(), error);
        Due.is("firstError() again of " + text, x.firstError(), error);
        if (whole) {
            Due.is("read() of " + text + " saves", Due.outcome(x::read) == BAD ? -1 : x.count(9), 2);
            Due.is("the buffer after read() of " + text, x.clearBuffer(), 0);
        } else {
            Due.refuses(x, BAD, "read() of " + text, x::read);
            Due.is("the buffer after read() of " + text, x.clearBuffer(), text.length());
        }
    }

    private static void texts() {
        String[] whole = {"0,0", "23,23", "-0,0", "1,1;2,2", "-1,10;19,20;-3,4", "20,9", "9,20", "0,19", "10,0", "22,21", "-23,0;0,23"};
        for (String good : whole) {
            text(good, good.length(), true);
        }
        String[] begun = {"", "0", "2", "23", "0,", "19,", "-", "-1", "-1,", "1,1;", "1,1;-", "1,1;-2", "1,1;2,"};
        for (String start : begun) {
            text(start, start.length(), false);
        }
        text("24", 1, false);
        text("24,1", 1, false);
        text("29,1", 1, false);
        text("30,1", 1, false);
        text("90,1", 1, false);
        text("100,1", 2, false);
        text("230,1", 2, false);
        text("1,24", 3, false);
        text("1,30", 3, false);
        text("1,190", 4, false);
        text("00,1", 1, false);
        text("01,1", 1, false);
        text("0,00", 3, false);
        text("0,01", 3, false);
        text("--1,1", 1, false);
        text("1-,1", 1, false);
        text("1,-1", 2, false);
        text("1,1-", 3, false);
        text("1,1,1", 3, false);
        text("1,,1", 2, false);
        text(",1", 0, false);
        text("-,1", 1, false);
        text(";1,1", 0, false);
        text("1;1", 1, false);
        text("1,;1", 2, false);
        text("-;1", 1, false);
        text("1,1;;", 4, false);
        text("1,1;,", 4, false);
        text("1,1;2,2;", 8, false);
        text("1,1;24,1", 5, false);
        text("1,1;2,2x", 7, false);
        text("+1,1", 0, false);
        text("1.1", 1, false);
        text("x", 0, false);
        text("2,3;xx;yy", 4, false);
    }

    /** Each character at each place of a spot. */
    private static void everyCode() {
        String digits = "0123456789";
        for (char code = 33; code < 127; code++) {
            text(code + "", (digits + "-").indexOf(code) >= 0 ? 1 : 0, false);
            text("-" + code, digits.indexOf(code) >= 0 ? 2 : 1, false);
            text("1" + code, (digits + ",").indexOf(code) >= 0 ? 2 : 1, false);
            text("2" + code, "0123,".indexOf(code) >= 0 ? 2 : 1, false);
            text("0" + code, code == ',' ? 2 : 1, false);
            text("13" + code, code == ',' ? 3 : 2, false);
            text("1," + code, digits.indexOf(code) >= 0 ? 3 : 2, digits.indexOf(code) >= 0);
            text("1,1" + code, (digits + ";").indexOf(code) >= 0 ? 4 : 3, digits.indexOf(code) >= 0);
            text("1,2" + code, "0123;".indexOf(code) >= 0 ? 4 : 3, "0123".indexOf(code) >= 0);
            text("1,0" + code, code == ';' ? 4 : 3, false);
            text("1,0;" + code, (digits + "-").indexOf(code) >= 0 ? 5 : 4, false);
        }
    }

    private static void read() {
        ScratchMap x = new ScratchMap();
        Scenes.type(x, "3,4;23,0;5,4;4,4");
        Due.is("read()", x.read(), 4);
        Due.is("spots", x.count(0), 4);
        Due.is("the first", x.cell(3, 4, 3), 0);
        Due.is("the second", x.cell(23, 0, 3), 1);
        Due.is("the third", x.cell(5, 4, 3), 2);
        Due.is("the fourth", x.cell(4, 4, 3), 3);
        Due.is("lines", x.count(1), 1);
        Due.is("avoided", x.count(2), 4);
        Due.is("saved as one call", x.count(9), 1);
        Due.is("the buffer", x.clearBuffer(), 0);
        Scenes.type(x, "7");
        Due.is("undo()", x.undo(), 0);
        Due.is("all undone", x.count(0), 0);
        Due.is("lines undone", x.count(1), 0);
        Due.is("the buffer is not undone", x.clearBuffer(), 1);
    }

    private static void readHeals() {
        ScratchMap x = Scenes.withSpots(1, 1, 2, 2, 3, 3);
        Scenes.type(x, "-2,2;6,6;2,2;-1,1");
        Due.is("read()", x.read(), 4);
        Due.is("healed", x.cell(1, 1, 3), -1);
        Due.is("first", x.cell(3, 3, 3), 0);
        Due.is("second", x.cell(6, 6, 3), 1);
        Due.is("third", x.cell(2, 2, 3), 2);
        Due.is("lines", x.count(1), 1);
        Due.is("its spots", x.line(0, 0), 7);
    }

    private static void readStops() {
        ScratchMap x = Scenes.withSpots(1, 1);
        Scenes.type(x, "2,2;1,1;3,3");
        Due.is("read() up to a spot", x.read(), 1);
        Due.is("not done", x.cell(3, 3, 0), 0);
        Due.is("the buffer", x.clearBuffer(), 0);
        Scenes.type(x, "-5,5;3,3");
        Due.is("read() up to no spot", x.read(), 0);
        Due.is("spots", x.count(0), 2);
        Due.is("saved also if none is done", x.count(9), 3);
        Due.is("the buffer, if none is done", x.clearBuffer(), 0);
        x.undo();
        Due.is("spots after undo()", x.count(0), 2);
        Scenes.type(x, "4,4;-4,4;-4,4");
        Due.is("read() in turns", x.read(), 2);
        Due.is("spots then", x.count(0), 2);
    }

    private static void readWholeBuffer() {
        ScratchMap x = new ScratchMap();
        String text = "0,0;0,1;0,2;0,3;0,4;0,5;0,6;0,7;0,8;0,9;1,0;1,1;1,2;1,3;1,10";
        Scenes.type(x, text);
        Due.is("60 characters", x.firstError(), 60);
        Due.is("read() up to 12 spots", x.read(), 12);
        Due.is("spots", x.count(0), 12);
        Due.is("the 13th", x.cell(1, 2, 3), -1);
        Scenes.type(x, "-0,0;0,0;-0,1;0,1;-0,2;0,2;-0,3;0,3;-0,4;0,4;-0,5;0,5;-0,6");
        Due.is("58 characters", x.firstError(), 58);
        Due.is("read() of 13", x.read(), 13);
        Due.is("spots then", x.count(0), 11);
        Due.is("the order then", x.cell(0, 5, 3), 10);
        Scenes.type(x, "9,9;8,8;-8,8");
        Due.is("read() with 11 spots", x.read(), 1);
    }

    private static void readLosesValues() {
        ScratchMap x = new ScratchMap();
        x.fill(24, 3, 6);
        Scenes.type(x, "1,0;-1,0;1,2;9,9");
        Due.is("read()", x.read(), 4);
        Due.is("lost", x.count(7), 2);
        Due.is("values", x.count(3), 1);
        x.undo();
        Due.is("lost, undone", x.count(7), 0);
        Due.is("values, undone", x.count(3), 3);
    }
}
