/** Bad spots on a drive, the lines that they make, and the blocks that keep out of their way. */
public final class ScratchMap {
    public static final int NONE = -1;

    private static final int TRACKS = 24;
    private static final int SECTORS = 24;
    private static final int CELLS = 576;
    /** Blocks have the cells 0 to 479 for homes; the spare cells are all above. */
    private static final int BLOCKS = 480;
    private static final int TOP_VALUE = 999;
    private static final int MOST_SPOTS = 12;
    private static final int MOST_FILLED = 48;
    private static final int MOST_MOVES = 99;
    private static final int MOST_SAVED = 6;
    /** Two spots lie on one line only, and a line takes three pairs at least: 66 / 3. */
    private static final int MOST_LINES = 22;

    private static final int SETTINGS = 3;
    private static final int SPOTS_FOR_LINE = 0;
    private static final int STEPS_BETWEEN = 1;
    private static final int STEPS_BEYOND = 2;
    private static final int[] LOWEST_SETTING = {3, 1, 0};
    private static final int[] HIGHEST_SETTING = {6, 8, 6};
    private static final int[] FIRST_SETTING = {3, 3, 2};

    private static final int COUNTS = 10;
    private static final int CELL_PROPERTIES = 4;
    private static final int BLOCK_PROPERTIES = 4;
    private static final int LINE_PROPERTIES = 6;
    private static final int FORECASTS = 4;
    /** 24 * track + sector of (2, 3), (10, 10) and (21, 5). */
    private static final int[] CELLS_IN_DIGEST = {51, 250, 509};

    private final State now = new State();
    private final LineMap map = new LineMap();
    private final State[] saved = new State[MOST_SAVED];
    private int savedStates = 0;
    private final InputText text = new InputText();
    /** What would be is tried out here, so that nothing is changed by a look. */
    private final State trial = new State();
    private final LineMap trialMap = new LineMap();

    public ScratchMap() {
        for (int i = 0; i < saved.length; i++) {
            saved[i] = new State();
        }
    }

    // ---- blocks

    public int write(int block, int value) throws IndexOutOfBoundsException, IllegalArgumentException, IllegalStateException {
        if (!isBlock(block)) {
            throw new IndexOutOfBoundsException("no such block");
        }
        if (!isValue(value)) {
            throw new IllegalArgumentException("value is not 0 to 999");
        }
        int target = cellForWriting(now, map, block);
        if (target == NONE) {
            throw new IllegalStateException("the block cannot be written");
        }
        saveState();
        now.place(block, target, value);
        return target;
    }

    public int fill(int first, int many, int value) throws IndexOutOfBoundsException, IllegalArgumentException {
        // many is taken from the other side, so that no sum runs over
        if (!isBlock(first) || many > BLOCKS - first) {
            throw new IndexOutOfBoundsException("no such blocks");
        }
        if (many < 1 || many > MOST_FILLED || !isValue(value)) {
            throw new IllegalArgumentException("many is not 1 to 48, or value is not 0 to 999");
        }
        saveState();
        for (int written = 0; written < many; written++) {
            int target = cellForWriting(now, map, first + written);
            if (target == NONE) {
                return written;
            }
            now.place(first + written, target, value);
        }
        return many;
    }

    public int drop(int block) throws IndexOutOfBoundsException {
        if (!isBlock(block)) {
            throw new IndexOutOfBoundsException("no such block");
        }
        saveState();
        int value = now.valueOf(block);
        now.forget(block);
        return value;
    }

    // ---- spots

    public int fail(int track, int sector) throws IllegalArgumentException, IllegalStateException {
        if (!inDrive(track, sector)) {
            throw new IllegalArgumentException("no such cell");
        }
        int cell = cellNumber(track, sector);
        if (!now.canAddSpot(cell)) {
            throw new IllegalStateException("a spot already, or there are 12");
        }
        saveState();
        now.addSpot(cell);
        map.build(now);
        return map.lineCount;
    }

    public int heal(int track, int sector) throws IllegalArgumentException, IllegalStateException {
        if (!inDrive(track, sector)) {
            throw new IllegalArgumentException("no such cell");
        }
        int cell = cellNumber(track, sector);
        if (now.spotAt(cell) == NONE) {
            throw new IllegalStateException("no spot");
        }
        saveState();
        now.removeSpot(cell);
        map.build(now);
        return map.lineCount;
    }

    public int tidy(int moves) throws IllegalArgumentException {
        if (moves < 1 || moves > MOST_MOVES) {
            throw new IllegalArgumentException("moves is not 1 to 99");
        }
        saveState();
        return tidyUp(now, map, moves);
    }

    public int set(int setting, int value) throws IndexOutOfBoundsException, IllegalArgumentException {
        if (!isSetting(setting)) {
            throw new IndexOutOfBoundsException("no such setting");
        }
        if (!fitsSetting(setting, value)) {
            throw new IllegalArgumentException("value is out of range");
        }
        saveState();
        int previous = now.settingOf(setting);
        now.changeSetting(setting, value);
        map.build(now);
        return previous;
    }

    // ---- texts

    public int append(int code) throws IllegalArgumentException, IllegalStateException {
        if (!InputText.isCode(code)) {
            throw new IllegalArgumentException("code is not 33 to 126");
        }
        if (text.isFull()) {
            throw new IllegalStateException("the buffer has 60 characters");
        }
        text.add(code);
        return text.length;
    }

    public int clearBuffer() {
        int length = text.length;
        text.empty();
        return length;
    }

    public int firstError() {
        return text.scan();
    }

    public int read() throws IllegalArgumentException {
        if (!text.tellsSpots()) {
            throw new IllegalArgumentException("the buffer does not tell spots");
        }
        saveState();
        int done = 0;
        while (done < text.orders && follow(done)) {
            done++;
        }
        text.empty();
        map.build(now);
        return done;
    }

    public int undo() throws IllegalStateException {
        int last = savedStates - 1;
        if (last < 0 || last >= saved.length || saved[last] == null) {
            throw new IllegalStateException("no saved state");
        }
        now.copyFrom(saved[last]);
        map.build(now);
        savedStates = last;
        return savedStates;
    }

    // ---- looks; nothing is changed

    public int cell(int track, int sector, int what) throws IllegalArgumentException {
        if (!inDrive(track, sector) || what < 0 || what >= CELL_PROPERTIES) {
            throw new IllegalArgumentException("an argument is out of range");
        }
        int cell = cellNumber(track, sector);
        switch (what) {
            case 0:
                return map.isSpot(cell) ? 2 : map.isAvoided(cell) ? 1 : 0;
            case 1:
                return now.holderOf(cell);
            case 2:
                return map.hitsOf(cell);
            default:
                return now.spotAt(cell);
        }
    }

    public int block(int block, int what) throws IndexOutOfBoundsException, IllegalArgumentException {
        if (!isBlock(block)) {
            throw new IndexOutOfBoundsException("no such block");
        }
        if (what < 0 || what >= BLOCK_PROPERTIES) {
            throw new IllegalArgumentException("what is not 0 to 3");
        }
        switch (what) {
            case 0:
                return now.valueOf(block);
            case 1:
                return now.placeOf(block);
            case 2:
                return isSpare(now.placeOf(block)) ? 1 : 0;
            default:
                return cellForWriting(now, map, block);
        }
    }

    public int line(int line, int what) throws IndexOutOfBoundsException, IllegalArgumentException {
        Line found = map.lineAt(line);
        if (found == null) {
            throw new IndexOutOfBoundsException("no such line");
        }
        if (what < 0 || what >= LINE_PROPERTIES) {
            throw new IllegalArgumentException("what is not 0 to 5");
        }
        return lineProperty(found, what);
    }

    public int count(int what) throws IllegalArgumentException {
        if (what < 0 || what >= COUNTS) {
            throw new IllegalArgumentException("what is not 0 to 9");
        }
        return numberOf(what);
    }

    public int setting(int setting) throws IndexOutOfBoundsException {
        if (!isSetting(setting)) {
            throw new IndexOutOfBoundsException("no such setting");
        }
        return now.settingOf(setting);
    }

    // ---- what would be; nothing is changed

    public int ifFailed(int track, int sector, int what) throws IllegalArgumentException {
        if (!inDrive(track, sector) || what < 0 || what >= FORECASTS) {
            throw new IllegalArgumentException("an argument is out of range");
        }
        int cell = cellNumber(track, sector);
        return tryFailing(cell) ? forecast(what) : NONE;
    }

    public int worst() {
        int found = NONE;
        for (int cell = 0; cell < CELLS; cell++) {
            if (map.isAvoided(cell) && (found == NONE || map.hitsOf(cell) > map.hitsOf(found))) {
                found = cell;
            }
        }
        return found;
    }

    public int untidy() {
        trial.copyFrom(now);
        return tidyUp(trial, map, BLOCKS);
    }

    public int find(int value) throws IllegalArgumentException {
        if (!isValue(value)) {
            throw new IllegalArgumentException("value is not 0 to 999");
        }
        for (int block = 0; block < BLOCKS; block++) {
            if (now.valueOf(block) == value) {
                return block;
            }
        }
        return NONE;
    }

    public double goodShare() {
        return (double) (CELLS - now.spotCount - map.avoided) / 576.0;
    }

    public long digest() {
        long hash = 2851L;
        for (int what = 0; what < COUNTS; what++) {
            hash = mix(hash, numberOf(what));
        }
        for (int setting = 0; setting < SETTINGS; setting++) {
            hash = mix(hash, now.settingOf(setting));
        }
        hash = hashSpotsAndLines(hash);
        hash = hashAvoidedCells(hash);
        hash = hashBlocks(hash);
        hash = hashForecasts(hash);
        hash = mix(hash, worst());
        hash = mix(hash, untidy());
        hash = mix(hash, bitsOfShare(goodShare()));
        return hashText(hash);
    }

    // ---- ranges

    private static boolean inDrive(int track, int sector) {
        return track >= 0 && track < TRACKS && sector >= 0 && sector < SECTORS;
    }

    private static int cellNumber(int track, int sector) {
        return track * SECTORS + sector;
    }

    private static boolean isCell(int cell) {
        return cell >= 0 && cell < CELLS;
    }

    private static boolean isSpare(int cell) {
        return cell >= BLOCKS && cell < CELLS;
    }

    private static boolean isBlock(int block) {
        return block >= 0 && block < BLOCKS;
    }

    private static boolean isValue(int value) {
        return value >= 0 && value <= TOP_VALUE;
    }

    private static boolean isSetting(int setting) {
        return setting >= 0 && setting < SETTINGS;
    }

    private static boolean fitsSetting(int setting, int value) {
        return isSetting(setting) && value >= LOWEST_SETTING[setting] && value <= HIGHEST_SETTING[setting];
    }

    // ---- saved states

    private void saveState() {
        if (savedStates >= saved.length) {
            moveOldestToEnd();
        }
        if (savedStates >= 0 && savedStates < saved.length && saved[savedStates] != null) {
            saved[savedStates].copyFrom(now);
            savedStates++;
        }
    }

    /** The rows of the state that is dropped are used again for the newest one. */
    private void moveOldestToEnd() {
        for (int i = 1; i < saved.length; i++) {
            State oldest = saved[i - 1];
            saved[i - 1] = saved[i];
            saved[i] = oldest;
        }
        savedStates = saved.length - 1;
    }

    // ---- where blocks go

    private static int cellForWriting(State state, LineMap map, int block) {
        int place = state.placeOf(block);
        if (map.isGood(place)) {
            return place;
        }
        return map.isGood(block) ? block : lowestFreeSpare(state, map);
    }

    private static int lowestFreeSpare(State state, LineMap map) {
        for (int cell = BLOCKS; cell < CELLS; cell++) {
            if (map.isGood(cell) && state.holderOf(cell) == NONE) {
                return cell;
            }
        }
        return NONE;
    }

    /** One pass over the blocks; tells how many moves it made. */
    private static int tidyUp(State state, LineMap map, int mostMoves) {
        int made = 0;
        for (int block = 0; block < BLOCKS && made < mostMoves; block++) {
            int target = cellForTidying(state, map, block);
            if (target != NONE) {
                state.place(block, target, state.valueOf(block));
                made++;
            }
        }
        return made;
    }

    /** NONE if the block stays, or has no value. */
    private static int cellForTidying(State state, LineMap map, int block) {
        int place = state.placeOf(block);
        if (place == NONE || place == block && map.isGood(place)) {
            return NONE;
        }
        if (map.isGood(block)) {
            return block;
        }
        return map.isGood(place) ? NONE : lowestFreeSpare(state, map);
    }

    // ---- what texts ask for

    /** Does what the text asks for in this place, if fail() or heal() would. */
    private boolean follow(int order) {
        int cell = text.cellOf(order);
        if (text.asksToHeal(order)) {
            if (now.spotAt(cell) == NONE) {
                return false;
            }
            now.removeSpot(cell);
            return true;
        }
        if (!now.canAddSpot(cell)) {
            return false;
        }
        now.addSpot(cell);
        return true;
    }

    // ---- numbers

    private int numberOf(int what) {
        switch (what) {
            case 0:
                return now.spotCount;
            case 1:
                return map.lineCount;
            case 2:
                return map.avoided;
            case 3:
                return blocksWithValues();
            case 4:
                return blocksInSpares();
            case 5:
                return blocksInBadCells(now, map);
            case 6:
                return freeSpares();
            case 7:
                return now.lost;
            case 8:
                return now.moves;
            default:
                return savedStates;
        }
    }

    private int blocksWithValues() {
        int number = 0;
        for (int block = 0; block < BLOCKS; block++) {
            if (now.valueOf(block) != NONE) {
                number++;
            }
        }
        return number;
    }

    private int blocksInSpares() {
        int number = 0;
        for (int cell = BLOCKS; cell < CELLS; cell++) {
            if (now.holderOf(cell) != NONE) {
                number++;
            }
        }
        return number;
    }

    private static int blocksInBadCells(State state, LineMap map) {
        int number = 0;
        for (int cell = 0; cell < CELLS; cell++) {
            if (state.holderOf(cell) != NONE && !map.isGood(cell)) {
                number++;
            }
        }
        return number;
    }

    private int freeSpares() {
        int number = 0;
        for (int cell = BLOCKS; cell < CELLS; cell++) {
            if (map.isGood(cell) && now.holderOf(cell) == NONE) {
                number++;
            }
        }
        return number;
    }

    private int lineProperty(Line line, int what) {
        switch (what) {
            case 0:
                return line.spotMask;
            case 1:
                return Integer.bitCount(line.spotMask);
            case 2:
                return line.cells;
            case 3:
                return takenCellsToAvoid(line);
            case 4:
                return line.stepTracks;
            default:
                return line.stepSectors + SECTORS;
        }
    }

    private int takenCellsToAvoid(Line line) {
        int number = 0;
        for (int i = 0; i < line.cells; i++) {
            int cell = line.cellAt(i);
            if (map.isAvoided(cell) && now.holderOf(cell) != NONE) {
                number++;
            }
        }
        return number;
    }

    /** Lays the trial out with this spot more; false if fail() would refuse it. */
    private boolean tryFailing(int cell) {
        if (!now.canAddSpot(cell)) {
            return false;
        }
        trial.copyFrom(now);
        trial.addSpot(cell);
        trialMap.build(trial);
        return true;
    }

    /** Answers from the trial that tryFailing() has laid out. */
    private int forecast(int what) {
        switch (what) {
            case 0:
                return trialMap.lineCount;
            case 1:
                return trialMap.avoided;
            case 2:
                return trial.lost - now.lost;
            default:
                return blocksInBadCells(trial, trialMap);
        }
    }

    // ---- the hash

    private static long mix(long hash, long value) {
        return 31L * hash + value;
    }

    private long hashSpotsAndLines(long before) {
        long hash = before;
        for (int spot = 0; spot < now.spotCount; spot++) {
            hash = mix(hash, now.cellOfSpot(spot));
        }
        for (int i = 0; i < map.lineCount; i++) {
            Line line = map.lineAt(i);
            for (int what = 0; line != null && what < LINE_PROPERTIES; what++) {
                hash = mix(hash, lineProperty(line, what));
            }
        }
        return hash;
    }

    private long hashAvoidedCells(long before) {
        long hash = before;
        for (int cell = 0; cell < CELLS; cell++) {
            if (map.isAvoided(cell)) {
                hash = mix(mix(hash, cell), map.hitsOf(cell));
            }
        }
        return hash;
    }

    private long hashBlocks(long before) {
        long hash = before;
        for (int block = 0; block < BLOCKS; block++) {
            if (now.valueOf(block) != NONE) {
                hash = mix(mix(mix(hash, block), now.valueOf(block)), now.placeOf(block));
            }
        }
        return hash;
    }

    private long hashForecasts(long before) {
        long hash = before;
        for (int i = 0; i < CELLS_IN_DIGEST.length; i++) {
            boolean possible = tryFailing(CELLS_IN_DIGEST[i]);
            for (int what = 0; what < FORECASTS; what++) {
                hash = mix(hash, possible ? forecast(what) : NONE);
            }
        }
        return hash;
    }

    private long hashText(long before) {
        long hash = mix(before, text.length);
        for (int i = 0; i < text.length; i++) {
            hash = mix(hash, text.codeAt(i));
        }
        return hash;
    }

    /** Double.doubleToLongBits is not in the language, so the bits of a share, 0 to 1, are made here. */
    private static long bitsOfShare(double share) {
        if (share <= 0.0) {
            return 0L;
        }
        long exponent = 1023L;
        double scaled = share;
        for (int i = 0; i < 1000 && scaled < 1.0; i++) {
            scaled = scaled * 2.0;
            exponent--;
        }
        // 2 to the power of 52: the fraction is a whole number then
        long fraction = (long) ((scaled - 1.0) * 4503599627370496.0);
        return (exponent << 52) | fraction;
    }

    /** All that is saved, and comes back by undo. */
    private static final class State {
        /** The cells of the spots, in the order in which they came. */
        private final int[] spots = new int[MOST_SPOTS];
        private final int[] settings = new int[SETTINGS];
        private final int[] values = new int[BLOCKS];
        private final int[] places = new int[BLOCKS];
        /** The blocks by their places, as places has the places by their blocks. */
        private final int[] holders = new int[CELLS];
        int spotCount = 0;
        int lost = 0;
        int moves = 0;

        State() {
            for (int i = 0; i < settings.length && i < FIRST_SETTING.length; i++) {
                settings[i] = FIRST_SETTING[i];
            }
            for (int i = 0; i < values.length && i < places.length; i++) {
                values[i] = NONE;
                places[i] = NONE;
            }
            for (int i = 0; i < holders.length; i++) {
                holders[i] = NONE;
            }
        }

        void copyFrom(State other) {
            if (other == null) {
                return;
            }
            System.arraycopy(other.spots, 0, spots, 0, MOST_SPOTS);
            System.arraycopy(other.settings, 0, settings, 0, SETTINGS);
            System.arraycopy(other.values, 0, values, 0, BLOCKS);
            System.arraycopy(other.places, 0, places, 0, BLOCKS);
            System.arraycopy(other.holders, 0, holders, 0, CELLS);
            spotCount = other.spotCount;
            lost = other.lost;
            moves = other.moves;
        }

        int valueOf(int block) {
            return isBlock(block) ? values[block] : NONE;
        }

        int placeOf(int block) {
            return isBlock(block) ? places[block] : NONE;
        }

        int holderOf(int cell) {
            return isCell(cell) ? holders[cell] : NONE;
        }

        int settingOf(int setting) {
            return isSetting(setting) ? settings[setting] : NONE;
        }

        void changeSetting(int setting, int value) {
            if (isSetting(setting)) {
                settings[setting] = value;
            }
        }

        /** A block that had a value in another cell makes a move by this. */
        void place(int block, int cell, int value) {
            if (!isBlock(block) || !isCell(cell)) {
                return;
            }
            int before = places[block];
            if (isCell(before) && before != cell) {
                holders[before] = NONE;
                moves++;
            }
            holders[cell] = block;
            places[block] = cell;
            values[block] = value;
        }

        void forget(int block) {
            int cell = placeOf(block);
            if (!isBlock(block) || !isCell(cell)) {
                return;
            }
            holders[cell] = NONE;
            places[block] = NONE;
            values[block] = NONE;
        }

        /** NONE if there are fewer spots. */
        int cellOfSpot(int spot) {
            return spot >= 0 && spot < spotCount && spot < spots.length ? spots[spot] : NONE;
        }

        /** NONE if the cell is no spot. */
        int spotAt(int cell) {
            for (int spot = 0; spot < spotCount; spot++) {
                if (cellOfSpot(spot) == cell) {
                    return spot;
                }
            }
            return NONE;
        }

        boolean canAddSpot(int cell) {
            return isCell(cell) && spotCount >= 0 && spotCount < spots.length && spotAt(cell) == NONE;
        }

        void addSpot(int cell) {
            if (!canAddSpot(cell)) {
                return;
            }
            spots[spotCount] = cell;
            spotCount++;
            int block = holderOf(cell);
            if (block != NONE) {
                forget(block);
                lost++;
            }
        }

        void removeSpot(int cell) {
            int spot = spotAt(cell);
            if (spot == NONE) {
                return;
            }
            for (int i = spot + 1; i > 0 && i < spotCount && i < spots.length; i++) {
                spots[i - 1] = spots[i];
            }
            spotCount--;
        }
    }

    /** The lines that the spots of a state make, and what they do to each cell. */
    private static final class LineMap {
        private final Line[] lines = new Line[MOST_LINES];
        private final int[] hits = new int[CELLS];
        private final boolean[] bad = new boolean[CELLS];
        private final int[] tracks = new int[MOST_SPOTS];
        private final int[] sectors = new int[MOST_SPOTS];
        private int spotCount = 0;
        int lineCount = 0;
        int avoided = 0;

        LineMap() {
            for (int i = 0; i < lines.length; i++) {
                lines[i] = new Line();
            }
        }

        void build(State state) {
            clear();
            takeSpots(state);
            // by these pairs the lines come in their order
            for (int first = 0; first < spotCount; first++) {
                for (int second = first + 1; second < spotCount; second++) {
                    if (addLine(state, first, second)) {
                        hitCells(lineAt(lineCount - 1));
                    }
                }
            }
            for (int cell = 0; cell < CELLS; cell++) {
                if (isAvoided(cell)) {
                    avoided++;
                }
            }
        }

        boolean isSpot(int cell) {
            return isCell(cell) && bad[cell];
        }

        boolean isAvoided(int cell) {
            return isCell(cell) && !bad[cell] && hits[cell] > 0;
        }

        boolean isGood(int cell) {
            return isCell(cell) && !bad[cell] && hits[cell] == 0;
        }

        int hitsOf(int cell) {
            return isCell(cell) ? hits[cell] : 0;
        }

        /** null if there is no such line. */
        Line lineAt(int number) {
            return number >= 0 && number < lineCount && number < lines.length ? lines[number] : null;
        }

        private void clear() {
            for (int cell = 0; cell < CELLS; cell++) {
                hits[cell] = 0;
                bad[cell] = false;
            }
            spotCount = 0;
            lineCount = 0;
            avoided = 0;
        }

        private void takeSpots(State state) {
            for (int spot = 0; spot < state.spotCount && spot < MOST_SPOTS; spot++) {
                int cell = state.cellOfSpot(spot);
                if (isCell(cell)) {
                    bad[cell] = true;
                    tracks[spot] = cell / SECTORS;
                    sectors[spot] = cell % SECTORS;
                    spotCount++;
                }
            }
        }

        private boolean addLine(State state, int first, int second) {
            int mask = spotsInLineWith(first, second);
            // a straight line is looked at once only, by its two spots that came first
            boolean seenBefore = (mask & ((1 << second) - 1)) != 1 << first;
            if (seenBefore || Integer.bitCount(mask) < state.settingOf(SPOTS_FOR_LINE)
                    || lineCount < 0 || lineCount >= lines.length || lines[lineCount] == null) {
                return false;
            }
            Line line = lines[lineCount];
            line.aim(trackOf(first), sectorOf(first), trackOf(second), sectorOf(second));
            for (int spot = first; spot < spotCount; spot++) {
                if ((mask >> spot & 1) == 1) {
                    line.join(spot, trackOf(spot), sectorOf(spot));
                }
            }
            if (line.widestGap() > state.settingOf(STEPS_BETWEEN)) {
                return false;
            }
            line.spread(state.settingOf(STEPS_BEYOND));
            lineCount++;
            return true;
        }

        private int trackOf(int spot) {
            return spot >= 0 && spot < tracks.length ? tracks[spot] : 0;
        }

        private int sectorOf(int spot) {
            return spot >= 0 && spot < sectors.length ? sectors[spot] : 0;
        }

        private int spotsInLineWith(int first, int second) {
            int mask = 0;
            int trackWay = trackOf(second) - trackOf(first);
            int sectorWay = sectorOf(second) - sectorOf(first);
            for (int spot = 0; spot < spotCount; spot++) {
                int trackPart = trackOf(spot) - trackOf(first);
                int sectorPart = sectorOf(spot) - sectorOf(first);
                if (trackPart * sectorWay == sectorPart * trackWay) {
                    mask = mask | 1 << spot;
                }
            }
            return mask;
        }

        private void hitCells(Line line) {
            for (int i = 0; line != null && i < line.cells; i++) {
                int cell = line.cellAt(i);
                if (isCell(cell)) {
                    hits[cell]++;
                }
            }
        }
    }

    /** A straight line through spots; along it one counts by steps, from the first of these. */
    private static final class Line {
        private static final int BIT_OF_FIRST = 24;

        int spotMask = 0;
        int stepTracks = 0;
        int stepSectors = 0;
        int cells = 0;
        private int firstTrack = 0;
        private int firstSector = 0;
        private int lowest = 0;
        private int highest = 0;
        /** A bit for each spot, by its steps from the first one, which are -23 to 23. */
        private long spotBits = 0L;

        /** Steps go to higher tracks, or along a track to higher sectors. */
        void aim(int fromTrack, int fromSector, int toTrack, int toSector) {
            int trackWay = toTrack - fromTrack;
            int sectorWay = toSector - fromSector;
            int steps = commonDivisor(Math.abs(trackWay), Math.abs(sectorWay));
            boolean backwards = trackWay < 0 || trackWay == 0 && sectorWay < 0;
            int divisor = backwards ? -steps : steps;
            stepTracks = divisor != 0 ? trackWay / divisor : 0;
            stepSectors = divisor != 0 ? sectorWay / divisor : 0;
            firstTrack = fromTrack;
            firstSector = fromSector;
            spotMask = 0;
            spotBits = 0L;
            lowest = 0;
            highest = 0;
        }

        void join(int spot, int track, int sector) {
            int steps = stepsTo(track, sector);
            spotMask = spotMask | 1 << spot;
            spotBits = spotBits | 1L << BIT_OF_FIRST + steps;
            lowest = Math.min(lowest, steps);
            highest = Math.max(highest, steps);
        }

        int widestGap() {
            int widest = 0;
            int before = lowest;
            for (int steps = lowest + 1; steps <= highest; steps++) {
                if ((spotBits >> BIT_OF_FIRST + steps & 1L) == 1L) {
                    widest = Math.max(widest, steps - before);
                    before = steps;
                }
            }
            return widest;
        }

        /** Goes beyond the outermost spots, as far as there are cells. */
        void spread(int beyond) {
            for (int i = 0; i < beyond && inDrive(trackAt(lowest - 1), sectorAt(lowest - 1)); i++) {
                lowest--;
            }
            for (int i = 0; i < beyond && inDrive(trackAt(highest + 1), sectorAt(highest + 1)); i++) {
                highest++;
            }
            cells = highest - lowest + 1;
        }

        int cellAt(int index) {
            return trackAt(lowest + index) * SECTORS + sectorAt(lowest + index);
        }

        private int trackAt(int steps) {
            return firstTrack + steps * stepTracks;
        }

        private int sectorAt(int steps) {
            return firstSector + steps * stepSectors;
        }

        private int stepsTo(int track, int sector) {
            if (stepTracks != 0) {
                return (track - firstTrack) / stepTracks;
            }
            return stepSectors != 0 ? (sector - firstSector) / stepSectors : 0;
        }

        /** 0 only for two zeros. */
        private static int commonDivisor(int one, int other) {
            int larger = one > other ? one : other;
            for (int divisor = larger; divisor > 1; divisor--) {
                if (one % divisor == 0 && other % divisor == 0) {
                    return divisor;
                }
            }
            return larger > 0 ? 1 : 0;
        }
    }

    /** The buffer, and the spots that it tells: orders to let cells fail or to heal them. */
    private static final class InputText {
        private static final int MOST_CODES = 60;
        /** A spot takes four characters, with the sign behind it, and the last one three. */
        private static final int MOST_ORDERS = 15;

        private final int[] codes = new int[MOST_CODES];
        private final int[] orderCells = new int[MOST_ORDERS];
        private final boolean[] orderHeals = new boolean[MOST_ORDERS];
        int length = 0;
        int orders = 0;
        /** The spot that is being scanned; the number is NONE ahead of its first digit. */
        private boolean healing = false;
        private boolean inSector = false;
        private int track = 0;
        private int number = NONE;

        static boolean isCode(int code) {
            return code >= 33 && code <= 126;
        }

        boolean isFull() {
            return length >= codes.length;
        }

        void add(int code) {
            if (length >= 0 && length < codes.length) {
                codes[length] = code;
                length++;
            }
        }

        void empty() {
            length = 0;
        }

        int codeAt(int index) {
            return index >= 0 && index < length && index < codes.length ? codes[index] : 0;
        }

        int cellOf(int order) {
            return order >= 0 && order < orders && order < orderCells.length ? orderCells[order] : NONE;
        }

        boolean asksToHeal(int order) {
            return order >= 0 && order < orders && order < orderHeals.length && orderHeals[order];
        }

        /** Tells the index of the first error, or the length. */
        int scan() {
            orders = 0;
            beginSpot();
            for (int i = 0; i < length; i++) {
                if (!take(codeAt(i))) {
                    return i;
                }
            }
            return length;
        }

        /** If so, the orders stand. */
        boolean tellsSpots() {
            return scan() == length && endSpot();
        }

        private void beginSpot() {
            healing = false;
            inSector = false;
            number = NONE;
        }

        private boolean endSpot() {
            if (!inSector || number == NONE) {
                return false;
            }
            if (orders >= 0 && orders < orderCells.length && orders < orderHeals.length) {
                orderCells[orders] = cellNumber(track, number);
                orderHeals[orders] = healing;
                orders++;
            }
            beginSpot();
            return true;
        }

        private boolean take(int code) {
            switch (code) {
                case '-':
                    return takeMinus();
                case ',':
                    return takeComma();
                case ';':
                    return endSpot();
                default:
                    return code >= '0' && code <= '9' && takeDigit(code - '0');
            }
        }

        private boolean takeMinus() {
            if (healing || inSector || number != NONE) {
                return false;
            }
            healing = true;
            return true;
        }

        private boolean takeComma() {
            if (inSector || number == NONE) {
                return false;
            }
            track = number;
            number = NONE;
            inSector = true;
            return true;
        }

        /** Tracks and sectors are alike in their highest number, 23. */
        private boolean takeDigit(int digit) {
            if (number == NONE) {
                number = digit;
                return true;
            }
            if (number == 0 || number * 10 + digit >= TRACKS) {
                return false;
            }
            number = number * 10 + digit;
            return true;
        }
    }
}
