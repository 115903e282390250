import java.util.ArrayDeque;
import java.util.ArrayList;
import java.util.Arrays;
import java.util.Comparator;
import java.util.List;
import java.util.Map;
import java.util.TreeMap;
import java.util.TreeSet;
import java.util.regex.Pattern;

/** The document told a second time, by other means than the program's. */
final class Model {
    /** A line: its spots in the order in which they came, its cells, its step. */
    private static final class Straight {
        final TreeSet<Integer> spots = new TreeSet<>();
        final TreeSet<Integer> cells = new TreeSet<>();
        int stepTracks;
        int stepSectors;
    }

    private static final String NUMBER = "([0-9]|1[0-9]|2[0-3])";
    private static final String SPOT = "-?" + NUMBER + "," + NUMBER;
    private static final Pattern SPOTS = Pattern.compile(SPOT + "(;" + SPOT + ")*");
    private static final String[] ENDINGS = {"", "0", ",0", "0,0"};
    private static final int[][] RANGES = {{3, 6}, {1, 8}, {0, 6}};

    private List<Integer> spots = new ArrayList<>();
    private int[] settings = {3, 3, 2};
    /** Blocks with their values and cells. */
    private TreeMap<Integer, int[]> blocks = new TreeMap<>();
    private int lost = 0;
    private int moves = 0;
    private List<Straight> lines = new ArrayList<>();
    /** How many lines have a cell, kept as it is asked for so often. */
    private int[] hits = new int[576];
    private final StringBuilder text = new StringBuilder();
    private final ArrayDeque<Model> saved = new ArrayDeque<>();

    int write(int block, int value) {
        demandIndex(block >= 0 && block < 480);
        demandArgument(value >= 0 && value < 1000);
        int target = target(block);
        demandState(target >= 0);
        save();
        put(block, value, target);
        return target;
    }

    int fill(int first, int many, int value) {
        demandIndex(first >= 0 && first < 480 && (long) first + many <= 480);
        demandArgument(many >= 1 && many <= 48 && value >= 0 && value < 1000);
        save();
        int done = 0;
        for (int block = first; block < first + many && target(block) >= 0; block++) {
            put(block, value, target(block));
            done++;
        }
        return done;
    }

    int drop(int block) {
        demandIndex(block >= 0 && block < 480);
        save();
        int[] had = blocks.remove(block);
        return had == null ? -1 : had[0];
    }

    int fail(int track, int sector) {
        demandArgument(isThere(track, sector));
        demandState(!spots.contains(24 * track + sector) && spots.size() < 12);
        save();
        spoil(24 * track + sector);
        return lines.size();
    }

    int heal(int track, int sector) {
        demandArgument(isThere(track, sector));
        demandState(spots.contains(24 * track + sector));
        save();
        spots.remove(Integer.valueOf(24 * track + sector));
        draw();
        return lines.size();
    }

    int tidy(int most) {
        demandArgument(most >= 1 && most <= 99);
        save();
        return pass(most);
    }

    int set(int setting, int value) {
        demandIndex(setting >= 0 && setting < 3);
        demandArgument(value >= RANGES[setting][0] && value <= RANGES[setting][1]);
        save();
        int old = settings[setting];
        settings[setting] = value;
        draw();
        return old;
    }

    int append(int code) {
        demandArgument(code >= 33 && code <= 126);
        demandState(text.length() < 60);
        return text.append((char) code).length();
    }

    int clearBuffer() {
        int length = text.length();
        text.setLength(0);
        return length;
    }

    int firstError() {
        for (int i = 0; i < text.length(); i++) {
            String start = text.substring(0, i + 1);
            if (Arrays.stream(ENDINGS).noneMatch(e -> SPOTS.matcher(start + e).matches())) {
                return i;
            }
        }
        return text.length();
    }

    int read() {
        demandArgument(SPOTS.matcher(text).matches());
        save();
        int done = 0;
        for (String order : text.toString().split(";")) {
            boolean heals = order.startsWith("-");
            String[] numbers = (heals ? order.substring(1) : order).split(",");
            int cell = 24 * Integer.parseInt(numbers[0]) + Integer.parseInt(numbers[1]);
            if (heals ? !spots.contains(cell) : spots.contains(cell) || spots.size() == 12) {
                break;
            }
            if (heals) {
                spots.remove(Integer.valueOf(cell));
                draw();
            } else {
                spoil(cell);
            }
            done++;
        }
        text.setLength(0);
        return done;
    }

    int undo() {
        demandState(!saved.isEmpty());
        restore(saved.removeLast());
        return saved.size();
    }

    int cell(int track, int sector, int what) {
        demandArgument(isThere(track, sector) && what >= 0 && what < 4);
        int cell = 24 * track + sector;
        int[] answers = {spots.contains(cell) ? 2 : isGood(cell) ? 0 : 1, holder(cell), hits(cell), spots.indexOf(cell)};
        return answers[what];
    }

    int block(int block, int what) {
        demandIndex(block >= 0 && block < 480);
        demandArgument(what >= 0 && what < 4);
        int[] had = blocks.getOrDefault(block, new int[] {-1, -1});
        return new int[] {had[0], had[1], had[1] >= 480 ? 1 : 0, target(block)}[what];
    }

    int line(int line, int what) {
        demandIndex(line >= 0 && line < lines.size());
        demandArgument(what >= 0 && what < 6);
        Straight found = lines.get(line);
        int mask = found.spots.stream().mapToInt(spot -> 1 << spot).sum();
        int taken = (int) found.cells.stream().filter(c -> !spots.contains(c) && holder(c) >= 0).count();
        return new int[] {mask, found.spots.size(), found.cells.size(), taken, found.stepTracks, found.stepSectors + 24}[what];
    }

    int count(int what) {
        demandArgument(what >= 0 && what < 10);
        switch (what) {
            case 0: return spots.size();
            case 1: return lines.size();
            case 2: return avoided().size();
            case 3: return blocks.size();
            case 4: return (int) blocks.values().stream().filter(b -> b[1] >= 480).count();
            case 5: return (int) blocks.values().stream().filter(b -> !isGood(b[1])).count();
            case 6:
                return freeSpares().size();
            case 7: return lost;
            case 8: return moves;
            default: return saved.size();
        }
    }

    int setting(int setting) {
        demandIndex(setting >= 0 && setting < 3);
        return settings[setting];
    }

    int ifFailed(int track, int sector, int what) {
        demandArgument(isThere(track, sector) && what >= 0 && what < 4);
        return forecasts(24 * track + sector)[what];
    }

    int worst() {
        return avoided().stream().max(Comparator.comparingInt((Integer c) -> hits(c)).thenComparing(Comparator.reverseOrder())).orElse(-1);
    }

    int untidy() {
        Model other = new Model();
        other.restore(this);
        return other.pass(Integer.MAX_VALUE);
    }

    int find(int value) {
        demandArgument(value >= 0 && value < 1000);
        return blocks.entrySet().stream().filter(e -> e.getValue()[0] == value).mapToInt(Map.Entry::getKey).findFirst().orElse(-1);
    }

    double goodShare() {
        return (576 - spots.size() - avoided().size()) / 576.0;
    }

    long digest() {
        List<Long> all = new ArrayList<>();
        for (int what = 0; what < 10; what++) {
            all.add((long) count(what));
        }
        Arrays.stream(settings).forEach(s -> all.add((long) s));
        spots.forEach(s -> all.add((long) s));
        for (int i = 0; i < lines.size() * 6; i++) {
            all.add((long) line(i / 6, i % 6));
        }
        for (int cell : avoided()) {
            all.add((long) cell);
            all.add((long) hits(cell));
        }
        blocks.forEach((b, had) -> all.addAll(List.of((long) b, (long) had[0], (long) had[1])));
        for (int[] place : new int[][] {{2, 3}, {10, 10}, {21, 5}}) {
            Arrays.stream(forecasts(24 * place[0] + place[1])).forEach(f -> all.add((long) f));
        }
        all.add((long) worst());
        all.add((long) untidy());
        all.add(Double.doubleToLongBits(goodShare()));
        all.add((long) text.length());
        text.chars().forEach(c -> all.add((long) c));
        long hash = 2851;
        for (long value : all) {
            hash = 31 * hash + value;
        }
        return hash;
    }

    private static void demandIndex(boolean fits) {
        if (!fits) {
            throw new IndexOutOfBoundsException();
        }
    }

    private static void demandArgument(boolean fits) {
        if (!fits) {
            throw new IllegalArgumentException();
        }
    }

    private static void demandState(boolean fits) {
        if (!fits) {
            throw new IllegalStateException();
        }
    }

    private static boolean isThere(int track, int sector) {
        return track >= 0 && track < 24 && sector >= 0 && sector < 24;
    }

    private void save() {
        Model copy = new Model();
        copy.restore(this);
        saved.addLast(copy);
        if (saved.size() > 6) {
            saved.removeFirst();
        }
    }

    private void restore(Model other) {
        spots = new ArrayList<>(other.spots);
        settings = other.settings.clone();
        blocks = new TreeMap<>();
        other.blocks.forEach((block, had) -> blocks.put(block, had.clone()));
        lost = other.lost;
        moves = other.moves;
        lines = other.lines;
        hits = other.hits;
    }

    private void spoil(int cell) {
        spots.add(cell);
        lost += blocks.values().removeIf(b -> b[1] == cell) ? 1 : 0;
        draw();
    }

    private int[] forecasts(int cell) {
        if (spots.contains(cell) || spots.size() == 12) {
            return new int[] {-1, -1, -1, -1};
        }
        Model other = new Model();
        other.restore(this);
        other.spoil(cell);
        return new int[] {other.count(1), other.count(2), other.lost - lost, other.count(5)};
    }

    private void put(int block, int value, int cell) {
        int[] had = blocks.put(block, new int[] {value, cell});
        moves += had != null && had[1] != cell ? 1 : 0;
    }

    private int holder(int cell) {
        return blocks.entrySet().stream().filter(e -> e.getValue()[1] == cell).mapToInt(Map.Entry::getKey).findFirst().orElse(-1);
    }

    private int hits(int cell) {
        return hits[cell];
    }

    private boolean isGood(int cell) {
        return !spots.contains(cell) && hits(cell) == 0;
    }

    private TreeSet<Integer> avoided() {
        TreeSet<Integer> all = new TreeSet<>();
        lines.forEach(l -> all.addAll(l.cells));
        all.removeAll(spots);
        return all;
    }

    private int target(int block) {
        int[] had = blocks.get(block);
        if (had != null && isGood(had[1])) {
            return had[1];
        }
        return isGood(block) ? block : spare();
    }

    private int spare() {
        TreeSet<Integer> free = freeSpares();
        return free.isEmpty() ? -1 : free.first();
    }

    private TreeSet<Integer> freeSpares() {
        TreeSet<Integer> free = new TreeSet<>();
        for (int cell = 480; cell < 576; cell++) {
            if (isGood(cell)) {
                free.add(cell);
            }
        }
        blocks.values().forEach(b -> free.remove(b[1]));
        return free;
    }

    private int pass(int most) {
        int made = 0;
        for (int block : new ArrayList<>(blocks.keySet())) {
            int from = blocks.get(block)[1];
            int to = from;
            if (!isGood(from)) {
                to = isGood(block) ? block : spare();
            } else if (from >= 480 && isGood(block)) {
                to = block;
            }
            if (to != from && to >= 0 && made < most) {
                put(block, blocks.get(block)[0], to);
                made++;
            }
        }
        return made;
    }

    /** Every direction is walked through every spot; what makes a line is kept, and sorted. */
    private void draw() {
        lines = new ArrayList<>();
        boolean[] bad = new boolean[576];
        spots.forEach(cell -> bad[cell] = true);
        for (int dt = 0; dt < 12; dt++) {
            for (int ds = dt == 0 ? 1 : -11; ds < 12; ds++) {
                for (int cell : spots) {
                    if (haveNoCommonDivisor(dt, ds)) {
                        walk(bad, cell, dt, ds);
                    }
                }
            }
        }
        lines.sort(Comparator.comparingInt((Straight l) -> l.spots.first()).thenComparingInt(l -> l.spots.higher(l.spots.first())));
        hits = new int[576];
        lines.forEach(l -> l.cells.forEach(c -> hits[c]++));
    }

    private static boolean haveNoCommonDivisor(int a, int b) {
        for (int divisor = 2; divisor < 12; divisor++) {
            if (a % divisor == 0 && b % divisor == 0) {
                return false;
            }
        }
        return true;
    }

    private void walk(boolean[] bad, int start, int dt, int ds) {
        List<Integer> steps = new ArrayList<>();
        for (int i = -23; i < 24; i++) {
            int track = start / 24 + i * dt;
            int sector = start % 24 + i * ds;
            if (isThere(track, sector) && bad[24 * track + sector]) {
                steps.add(i);
            }
        }
        boolean near = true;
        for (int i = 1; i < steps.size(); i++) {
            near &= steps.get(i) - steps.get(i - 1) <= settings[1];
        }
        // each line is kept once: when the walk starts at its first spot of all on it
        if (steps.get(0) != 0 || steps.size() < settings[0] || !near) {
            return;
        }
        Straight line = new Straight();
        line.stepTracks = dt;
        line.stepSectors = ds;
        for (int i = -settings[2]; i <= steps.get(steps.size() - 1) + settings[2]; i++) {
            int track = start / 24 + i * dt;
            int sector = start % 24 + i * ds;
            if (isThere(track, sector)) {
                line.cells.add(24 * track + sector);
                if (steps.contains(i)) {
                    line.spots.add(spots.indexOf(24 * track + sector));
                }
            }
        }
        lines.add(line);
    }
}
