/** The sentences about the buffer, ahead of the promises and in the promises 9 to 12. */
final class TextsEdges {
    private static final int[] NO_CODES = {32, 127, 0, -1, 128, 31, Edges.LEAST, Edges.MOST};

    private TextsEdges() {
    }

    static void all(Sentences s) {
        s.hold(0, "The buffer has at most 60 characters.", TextsEdges::atMostSixty);
        s.hold(0, "Spots as a text are one or more spots with \";\" between them:", TextsEdges::oneOrMoreSpots);
        s.hold(0, "a track, 0 to 23, \",\", and a sector, 0 to 23;", TextsEdges::tracksAndSectors);
        s.hold(0, "perhaps \"-\" ahead of it (the spot is good again).", TextsEdges::minusAhead);
        s.hold(0, "Numbers are without leading zeros.", TextsEdges::withoutLeadingZeros);
        s.hold(0, "The buffer is read from left to right; a character is a syntax error if no spots as a text, of any length,"
            + " begin with the characters before it and this character.", TextsEdges::errorsByPlace);
        append(s);
        s.hold(10, "Clears the buffer.", TextsEdges::clears);
        s.hold(10, "Returns the length that it had.", TextsEdges::clearReturns);
        s.hold(11, "Finds the first syntax error of the buffer.", TextsEdges::findsFirstError);
        s.hold(11, "Returns the index of the first character that is a syntax error; the length of the buffer if there is none.", TextsEdges::errorReturns);
        read(s);
    }

    static ScratchMap with(String text) {
        ScratchMap x = new ScratchMap();
        Scenes.type(x, text);
        return x;
    }

    /** 60 characters, and no syntax error; but the last spot is missing. */
    static ScratchMap fullBuffer() {
        return with("0,0;0,1;0,2;0,3;0,4;0,5;0,6;0,7;0,8;0,9;1,0;1,1;1,2;1,3;1,4;");
    }

    // ---- the terms

    private static void atMostSixty() {
        ScratchMap x = new ScratchMap();
        for (int length = 1; length <= 60; length++) {
            Due.is("append(49)", x.append('1'), length);
        }
        Due.is("append(49), the 61st", Due.outcome(() -> x.append('1')), Edges.STATE);
        Due.is("clearBuffer()", x.clearBuffer(), 60);
    }

    /** The text has no error and is whole. */
    private static void whole(String text, int done) {
        ScratchMap x = with(text);
        Due.is("firstError() of " + text, x.firstError(), text.length());
        Due.is("read() of " + text, Due.outcome(x::read), done);
    }

    /** The text has no error, but it is not whole. */
    private static void begun(String text) {
        ScratchMap x = with(text);
        Due.is("firstError() of " + text, x.firstError(), text.length());
        Due.is("read() of " + text, Due.outcome(x::read), Edges.ARGUMENT);
        Due.is("clearBuffer() after it", x.clearBuffer(), text.length());
    }

    private static void wrong(String text, int error) {
        ScratchMap x = with(text);
        Due.is("firstError() of " + text, x.firstError(), error);
        Due.is("read() of " + text, Due.outcome(x::read), Edges.ARGUMENT);
        Due.is("clearBuffer() after it", x.clearBuffer(), text.length());
    }

    private static void oneOrMoreSpots() {
        begun("");
        whole("1,1", 1);
        whole("1,1;2,2", 2);
        whole("0,0;0,1;0,2;0,3;0,4;0,5;-0,1;-0,2;-0,3;-0,4;-0,5;9,9;9,8;9,7", 14);
        whole("0,0;0,1;0,2;0,3;0,4;0,5;0,6;0,7;0,8;0,9;1,0;1,1;1,2;1,3;1,4", 12);
        begun("1,1;");
        begun("1,1;2,2;");
        wrong(";1,1", 0);
        wrong("1,1;;2,2", 4);
        wrong("1,1:2,2", 3);
        wrong("1,1,2,2", 3);
    }

    private static void tracksAndSectors() {
        for (int number = 0; number <= 23; number++) {
            whole(number + ",7", 1);
            whole("7," + number, 1);
        }
        ScratchMap x = with("0,23;23,0");
        x.read();
        Due.is("the first spot", x.cell(0, 23, 3), 0);
        Due.is("the second spot", x.cell(23, 0, 3), 1);
        for (int number : new int[] {24, 25, 29, 30, 99}) {
            wrong(number + ",7", 1);
            wrong("7," + number, 3);
        }
        wrong("230,7", 2);
        wrong("7,230", 4);
        wrong("100,7", 2);
        wrong("7,100", 4);
        begun("2");
        begun("23");
        begun("23,");
        wrong(",7", 0);
        wrong("7,,", 2);
        wrong("7,;", 2);
        wrong("7;7", 1);
    }

    private static void minusAhead() {
        ScratchMap x = Scenes.withSpots(0, 0, 23, 23);
        Scenes.type(x, "-23,23;-0,0");
        Due.is("firstError()", x.firstError(), 11);
        Due.is("read()", x.read(), 2);
        Due.is("spots", x.count(0), 0);
        whole("-1,1", 0);
        whole("2,2;-2,2", 2);
        begun("-");
        begun("-1");
        begun("1,1;-");
        wrong("--1,1", 1);
        wrong("1-,1", 1);
        wrong("1,-1", 2);
        wrong("1,1-", 3);
        wrong("-,1", 1);
        wrong("-;", 1);
        wrong("+1,1", 0);
    }

    private static void withoutLeadingZeros() {
        whole("0,0", 1);
        whole("-0,0", 0);
        whole("10,20", 1);
        whole("20,10", 1);
        for (char digit = '0'; digit <= '9'; digit++) {
            wrong("0" + digit + ",1", 1);
            wrong("1,0" + digit, 3);
            wrong("-0" + digit + ",1", 2);
            wrong("1,1;2,0" + digit, 7);
        }
    }

    private static void errorsByPlace() {
        for (String start : new String[] {"", "-", "1", "2", "23", "-2", "-23,", "1,", "1,23;", "1,1;-", "0", "0,0;0"}) {
            begun(start);
        }
        wrong("x1,1", 0);
        wrong("1,1x", 3);
        wrong("1,1;x", 4);
        wrong("3x;xx", 1);
        ScratchMap x = fullBuffer();
        Due.is("firstError() of 60 characters that longer texts begin with", x.firstError(), 60);
        Due.is("read() of it", Due.outcome(x::read), Edges.ARGUMENT);
        String most = "0,0;0,1;0,2;0,3;0,4;0,5;0,6;0,7;0,8;0,9;1,0;1,1;1,2;1,3;";
        begun(most + "10,");
        begun(most + "-10,");
        whole(most + "1,10", 12);
        wrong(most + "1,24", 59);
        wrong(most + "1,1x", 59);
    }

    // ---- append

    private static void append(Sentences s) {
        s.hold(9, "Appends a character to the buffer.", TextsEdges::appends);
        s.hold(9, "`code`: the character code, 33 to 126", TextsEdges::codes);
        s.hold(9, "Returns the new length of the buffer.", TextsEdges::appendReturns);
        s.hold(9, "Throws `IllegalArgumentException` if code is not 33 to 126", TextsEdges::appendNoSuchCode);
        s.hold(9, "Throws `IllegalStateException` if the buffer has 60 characters", TextsEdges::appendToFull);
    }

    private static void appends() {
        ScratchMap x = with("7,");
        Due.is("firstError()", x.firstError(), 2);
        x.append('9');
        Due.is("read()", x.read(), 1);
        Due.is("cell(7, 9, 0)", x.cell(7, 9, 0), 2);
        Due.is("append() saves no state", x.count(9), 1);
        x.append('1');
        x.undo();
        Due.is("undo() does not reach the buffer", x.clearBuffer(), 1);
    }

    private static void codes() {
        ScratchMap x = new ScratchMap();
        Due.is("append(33)", x.append(33), 1);
        Due.is("append(126)", x.append(126), 2);
        Model m = new Model();
        m.append(33);
        m.append(126);
        Due.is("digest() with both codes", x.digest(), m.digest());
        for (int code : NO_CODES) {
            Edges.refuses(Scenes::worn, Edges.ARGUMENT, "append(" + code + ")", y -> y.append(code));
        }
    }

    private static void appendReturns() {
        ScratchMap x = new ScratchMap();
        for (int length = 1; length <= 60; length++) {
            Due.is("append(" + (length + 40) + ")", x.append(length + 40), length);
        }
        x.clearBuffer();
        Due.is("append(33) to the empty buffer", x.append(33), 1);
    }

    private static void appendNoSuchCode() {
        for (int code : NO_CODES) {
            Edges.refuses(ScratchMap::new, Edges.ARGUMENT, "append(" + code + ") to the empty buffer", x -> x.append(code));
            Edges.refuses(TextsEdges::fullBuffer, Edges.ARGUMENT, "append(" + code + ") to the full buffer", x -> x.append(code));
        }
    }

    private static void appendToFull() {
        for (int code : new int[] {33, '1', 126}) {
            Edges.refuses(TextsEdges::fullBuffer, Edges.STATE, "append(" + code + ")", x -> x.append(code));
        }
        ScratchMap x = with("0,0;0,1;0,2;0,3;0,4;0,5;0,6;0,7;0,8;0,9;1,0;1,1;1,2;1,3;1,1");
        Due.is("append(49), the 60th", x.append('1'), 60);
        Due.is("append(49), the 61st", Due.outcome(() -> x.append('1')), Edges.STATE);
        Due.is("the text is as it was", x.firstError(), 60);
        x.clearBuffer();
        Due.is("append(49) when it is cleared", x.append('1'), 1);
    }

    // ---- clearBuffer, firstError

    private static void clears() {
        ScratchMap x = fullBuffer();
        x.clearBuffer();
        Due.is("digest() then", x.digest(), new ScratchMap().digest());
        Due.is("append(49) then", x.append('1'), 1);
        Due.is("no state is saved", x.count(9), 0);
    }

    private static void clearReturns() {
        Due.is("clearBuffer() of the empty buffer", new ScratchMap().clearBuffer(), 0);
        Due.is("clearBuffer() of one character", with("x").clearBuffer(), 1);
        ScratchMap x = fullBuffer();
        Due.is("clearBuffer() of the full buffer", x.clearBuffer(), 60);
        Due.is("clearBuffer() again", x.clearBuffer(), 0);
        ScratchMap y = with("1,1");
        y.read();
        Due.is("clearBuffer() after read()", y.clearBuffer(), 0);
    }

    private static void findsFirstError() {
        Due.is("of several", with("1x2y;;").firstError(), 1);
        Due.is("of several at once", with("xyz").firstError(), 0);
        ScratchMap x = with("1,1;2,");
        Due.is("of none", x.firstError(), 6);
        x.append('x');
        x.append('3');
        Due.is("of one in the middle", x.firstError(), 6);
        Edges.changesNothing(Scenes::worn, "firstError()", ScratchMap::firstError);
        Edges.changesNothing(() -> with("1x"), "firstError() of an error", ScratchMap::firstError);
    }

    private static void errorReturns() {
        Due.is("firstError() of the empty buffer", new ScratchMap().firstError(), 0);
        Due.is("firstError() of an error at once", with("x").firstError(), 0);
        Due.is("firstError() of one character", with("1").firstError(), 1);
        ScratchMap x = fullBuffer();
        Due.is("firstError() of the full buffer", x.firstError(), 60);
        Due.is("read() is refused", Due.outcome(x::read), Edges.ARGUMENT);
        Due.is("firstError() after it", x.firstError(), 60);
        ScratchMap y = with("0,0;0,1;0,2;0,3;0,4;0,5;0,6;0,7;0,8;0,9;1,0;1,1;1,2;1,3;1,1x");
        Due.is("firstError() in the last character", y.firstError(), 59);
    }

    // ---- read

    private static void read(Sentences s) {
        s.hold(12, "Lets the spots in the buffer fail, or makes them good, as fail() and heal() do, one after the other,", TextsEdges::readsOneAfterTheOther);
        s.hold(12, "up to the first one whose method would throw an exception, and clears the buffer.", TextsEdges::readsUpToTheFirstRefused);
        s.hold(12, "Undoable, as one call, also if none is done.", TextsEdges::readIsUndoable);
        s.hold(12, "Undoable, as one call, also if none is done.", TextsEdges::readIsUndoableWithoutRoom);
        s.hold(12, "Returns how many are done.", TextsEdges::readReturns);
        s.hold(12, "Throws `IllegalArgumentException` if the buffer does not tell spots as a text", TextsEdges::readNoSpots);
    }

    private static void readsOneAfterTheOther() {
        ScratchMap x = new ScratchMap();
        x.fill(0, 4, 5);
        Scenes.type(x, "0,1;0,0;0,2;-0,1;0,3");
        Due.is("read()", x.read(), 5);
        int[] spots = {0, -1, 1, 2};
        for (int sector = 0; sector < 4; sector++) {
            Due.is("cell(0, " + sector + ", 3)", x.cell(0, sector, 3), spots[sector]);
        }
        Due.is("values that were lost", x.count(7), 4);
        Due.is("lines", x.count(1), 1);
        Due.is("a healed spot that is avoided", x.cell(0, 1, 0), 1);
    }

    private static void readsUpToTheFirstRefused() {
        String[] texts = {"1,1;0,0;2,2", "1,1;-5,5;2,2", "1,1;1,1;2,2"};
        for (String text : texts) {
            ScratchMap x = Scenes.withSpots(0, 0);
            Scenes.type(x, text);
            Due.is("read() of " + text, x.read(), 1);
            Due.is("cell(1, 1, 0)", x.cell(1, 1, 0), 2);
            Due.is("cell(2, 2, 0)", x.cell(2, 2, 0), 0);
            Due.is("clearBuffer()", x.clearBuffer(), 0);
        }
        ScratchMap z = Scenes.withSpots(0, 0);
        Scenes.type(z, "0,0;1,1");
        Due.is("read() whose first one is refused", z.read(), 0);
        Due.is("cell(1, 1, 0)", z.cell(1, 1, 0), 0);
        Due.is("clearBuffer() after it", z.clearBuffer(), 0);
        ScratchMap y = Scenes.jammed();
        y.heal(20, 0);
        Scenes.type(y, "0,0;1,1;-0,0");
        Due.is("read() up to the 13th spot", y.read(), 1);
        Due.is("spots", y.count(0), 12);
        Due.is("the third is not done", y.cell(0, 0, 0), 2);
        Scenes.type(y, "-0,0;1,1");
        Due.is("read() that makes room first", y.read(), 2);
    }

    private static void readIsUndoable() {
        Edges.undoable("read()", ScratchMap::read);
        String[] texts = {"0,0", "-9,9;1,1", "0,0;1,1", "10,10;-10,10", "-0,0;0,0;0,0"};
        int[] done = {0, 0, 0, 2, 2};
        for (int i = 0; i < texts.length; i++) {
            String text = texts[i];
            ScratchMap x = Scenes.withSpots(0, 0);
            Scenes.type(x, text);
            Due.is("read() of " + text, x.read(), done[i]);
            Due.is("saved states", x.count(9), 2);
            Edges.undoable(() -> Scenes.withText(text), "read() of " + text, ScratchMap::read);
        }
    }

    /** The 12 spots come by one call, so that there is room among the saved states for the next. */
    private static void readIsUndoableWithoutRoom() {
        String[] texts = {"5,5", "0,0", "-5,5", "5,5;-0,0", "-0,0;0,0", "-0,0;5,5;6,6"};
        int[] done = {0, 0, 0, 0, 2, 2};
        for (int i = 0; i < texts.length; i++) {
            ScratchMap x = with("0,0;0,1;0,2;0,3;0,4;0,5;0,6;0,7;0,8;0,9;1,0;1,1");
            x.read();
            long before = x.digest();
            Scenes.type(x, texts[i]);
            Due.is("read() of " + texts[i], x.read(), done[i]);
            Due.is("clearBuffer()", x.clearBuffer(), 0);
            Due.is("saved states after " + texts[i], x.count(9), 2);
            Due.is("undo() of " + texts[i], Due.outcome(x::undo), 1);
            Due.is("digest() after undo() of " + texts[i], x.digest(), before);
        }
    }

    private static void readReturns() {
        ScratchMap x = Scenes.withSpots(3, 3);
        Scenes.type(x, "3,3;4,4");
        Due.is("read(), none", x.read(), 0);
        Scenes.type(x, "4,4");
        Due.is("read(), the only one", x.read(), 1);
        Scenes.type(x, "-4,4;4,4;-4,4;4,4;-4,4;4,4;-4,4;4,4;-4,4;4,4;-4,4;4,4;-3,3");
        Due.is("read(), 13", x.read(), 13);
        ScratchMap y = with("0,0;0,1;0,2;0,3;0,4;0,5;0,6;0,7;0,8;0,9;1,0;1,1;-0,0;1,2");
        Due.is("read(), all of 14", y.read(), 14);
    }

    private static void readNoSpots() {
        String[] texts = {"", "1", "1,", "-", "-1,", "1,1;", "1,1;-", "x", "1,1x", "24,0", "0,24", "01,1", "1,1;;1,1", ";", ",", "1,1;2", "--1,1"};
        for (String text : texts) {
            Edges.refuses(() -> with(text), Edges.ARGUMENT, "read() of '" + text + "'", ScratchMap::read);
            Edges.refuses(() -> Scenes.withText(text), Edges.ARGUMENT, "read() of '" + text + "', with saved states", ScratchMap::read);
        }
        Edges.refuses(TextsEdges::fullBuffer, Edges.ARGUMENT, "read() of a full buffer", ScratchMap::read);
    }
}
