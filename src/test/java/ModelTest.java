import java.util.Random;

/** Long runs of calls, by fixed seeds, of which each answer must be the model's. */
public final class ModelTest {
    private static final int RUNS = 150;
    private static final int CALLS = 250;
    private static final int[] ODD = {-1, 24, 480, 1000, 49, Integer.MAX_VALUE, Integer.MIN_VALUE};
    private static final String SIGNS = "0123456789,;-";

    private final Random random;
    private final ScratchMap x = new ScratchMap();
    private final Model m = new Model();
    /** Small fields and spread ones: spots that make lines must be common. */
    private final int field;
    private final int trackBase;
    private final int sectorBase;

    private ModelTest(int seed) {
        random = new Random(seed);
        field = 3 + random.nextInt(6);
        trackBase = seed % 5 == 0 ? 15 : seed % 3 == 0 ? 24 - field : random.nextInt(24 - field);
        sectorBase = random.nextInt(24 - field);
    }

    public static void main(String[] args) {
        for (int seed = 1; seed <= RUNS; seed++) {
            ModelTest run = new ModelTest(seed);
            if (seed % 5 == 0) {
                run.crowd("run " + seed + ", before: ");
            }
            for (int call = 0; call < CALLS; call++) {
                run.change("run " + seed + ", call " + call + ": ");
                run.look("run " + seed + ", after call " + call + ": ");
            }
        }
        Due.end();
    }

    /** Few spare cells are left then, as in Scenes.jam(). */
    private void crowd(String run) {
        for (int first = 336; first < 480; first += 48) {
            int a = first;
            same(run + "fill(" + a + ", 48, 1)", () -> x.fill(a, 48, 1), () -> m.fill(a, 48, 1));
        }
        same(run + "set(1, 8)", () -> x.set(1, 8), () -> m.set(1, 8));
        same(run + "set(2, 6)", () -> x.set(2, 6), () -> m.set(2, 6));
        for (int i = 0; i < 12; i++) {
            int a = 20 + i / 3;
            int b = i % 3 * 8;
            same(run + "fail(" + a + ", " + b + ")", () -> x.fail(a, b), () -> m.fail(a, b));
        }
    }

    private int odd(int usual) {
        return random.nextInt(60) == 0 ? ODD[random.nextInt(ODD.length)] : usual;
    }

    private int track() {
        return odd(random.nextInt(8) == 0 ? random.nextInt(24) : trackBase + random.nextInt(field));
    }

    private int sector() {
        return odd(random.nextInt(8) == 0 ? random.nextInt(24) : sectorBase + random.nextInt(field));
    }

    private int block() {
        int near = 24 * (trackBase + random.nextInt(field)) + sectorBase + random.nextInt(field);
        return odd(near < 480 && random.nextInt(3) > 0 ? near : random.nextInt(480));
    }

    private void change(String run) {
        int a;
        int b;
        int c;
        switch (random.nextInt(16)) {
            case 0:
            case 1:
                a = block();
                b = odd(random.nextInt(1000));
                same(run + "write(" + a + ", " + b + ")", () -> x.write(a, b), () -> m.write(a, b));
                return;
            case 2:
            case 3:
                a = block();
                b = odd(1 + random.nextInt(48));
                c = odd(random.nextInt(1000));
                same(run + "fill(" + a + ", " + b + ", " + c + ")", () -> x.fill(a, b, c), () -> m.fill(a, b, c));
                return;
            case 4:
                a = block();
                same(run + "drop(" + a + ")", () -> x.drop(a), () -> m.drop(a));
                return;
            case 5:
            case 6:
            case 7:
            case 8:
                a = track();
                b = sector();
                same(run + "fail(" + a + ", " + b + ")", () -> x.fail(a, b), () -> m.fail(a, b));
                return;
            case 9:
                a = track();
                b = sector();
                same(run + "heal(" + a + ", " + b + ")", () -> x.heal(a, b), () -> m.heal(a, b));
                return;
            case 10:
                a = odd(random.nextBoolean() ? 1 + random.nextInt(5) : 99);
                same(run + "tidy(" + a + ")", () -> x.tidy(a), () -> m.tidy(a));
                return;
            case 11:
                a = odd(random.nextInt(3));
                b = odd(random.nextInt(10));
                same(run + "set(" + a + ", " + b + ")", () -> x.set(a, b), () -> m.set(a, b));
                return;
            case 12:
            case 13:
                type(run);
                return;
            case 14:
                same(run + "read()", x::read, m::read);
                return;
            default:
                same(run + "undo()", x::undo, m::undo);
        }
    }

    private void type(String run) {
        StringBuilder text = new StringBuilder();
        for (int spots = 1 + random.nextInt(3); spots > 0; spots--) {
            text.append(random.nextInt(3) == 0 ? "-" : "").append(trackBase + random.nextInt(field));
            text.append(',').append(sectorBase + random.nextInt(field)).append(spots > 1 ? ";" : "");
        }
        if (random.nextInt(3) == 0) {
            text.setCharAt(random.nextInt(text.length()), SIGNS.charAt(random.nextInt(SIGNS.length())));
        }
        if (random.nextInt(3) > 0) {
            same(run + "clearBuffer()", x::clearBuffer, m::clearBuffer);
        }
        for (int i = 0; i < text.length(); i++) {
            int code = odd(text.charAt(i));
            same(run + "append(" + code + ")", () -> x.append(code), () -> m.append(code));
        }
        same(run + "firstError()", x::firstError, m::firstError);
    }

    private void look(String run) {
        same(run + "digest()", x::digest, m::digest);
        int what = random.nextInt(12) - 1;
        int track = track();
        int sector = sector();
        int block = block();
        int line = random.nextInt(8) - 1;
        int value = random.nextInt(1002) - 1;
        same(run + "cell(" + track + ", " + sector + ", " + what / 2 + ")", () -> x.cell(track, sector, what / 2), () -> m.cell(track, sector, what / 2));
        same(run + "block(" + block + ", " + what / 2 + ")", () -> x.block(block, what / 2), () -> m.block(block, what / 2));
        same(run + "line(" + line + ", " + what + ")", () -> x.line(line, what), () -> m.line(line, what));
        same(run + "count(" + what + ")", () -> x.count(what), () -> m.count(what));
        same(run + "setting(" + what / 2 + ")", () -> x.setting(what / 2), () -> m.setting(what / 2));
        same(run + "ifFailed(" + track + ", " + sector + ", " + what / 2 + ")", () -> x.ifFailed(track, sector, what / 2), () -> m.ifFailed(track, sector, what / 2));
        same(run + "worst()", x::worst, m::worst);
        same(run + "untidy()", x::untidy, m::untidy);
        same(run + "find(" + value + ")", () -> x.find(value), () -> m.find(value));
        same(run + "goodShare()", x::goodShare, m::goodShare);
    }

    private static void same(String call, Due.Call program, Due.Call model) {
        Due.is(call, Due.outcome(program), Due.outcome(model));
    }
}
