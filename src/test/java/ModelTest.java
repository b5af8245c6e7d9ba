import java.util.Arrays;
import java.util.Random;
import java.util.function.LongSupplier;

/** Long runs of calls, the same each time, on the class and on the model: all answers must be the same. */
public final class ModelTest {
    private static final int RUNS = 1500;
    private static final int CALLS = 512;
    /** So often each call must have been answered, and refused, or the runs tell little. */
    private static final int FEWEST = 200;
    private static final int KINDS = 25;
    private static final int MEAN_WORTH = 20;
    private static final int DIGEST = 24;
    private static final int[] ODD = {Integer.MIN_VALUE, -1000, -2, -1, 0, 1, 6, 7, 16, 40, 64, 360, 1001, 10000,
        Integer.MAX_VALUE - 1, Integer.MAX_VALUE};

    private final Random random;
    private final DatamarketDesk desk = new DatamarketDesk();
    private final Model model = new Model();
    private final int digestEvery;
    private int sets = 0;

    private ModelTest(int run) {
        random = new Random(run);
        digestEvery = run % 10 == 0 ? 1 : 16;
    }

    public static void main(String[] args) {
        int wrong = 0;
        int[] answered = new int[KINDS];
        int[] refused = new int[KINDS];
        for (int run = 0; run < RUNS; run++) {
            if (!new ModelTest(run).goesAsTheModel(run, answered, refused)) {
                wrong++;
            }
        }
        for (int kind = 0; kind < KINDS; kind++) {
            boolean neverRefused = kind == MEAN_WORTH || kind == DIGEST;
            if (answered[kind] < FEWEST || !neverRefused && refused[kind] < FEWEST) {
                wrong++;
                System.out.println("calls of kind " + kind + " hardly come: " + answered[kind] + ", " + refused[kind]);
            }
        }
        System.out.println(RUNS + " runs, " + wrong + " wrong");
        if (wrong != 0) {
            System.exit(1);
        }
    }

    private boolean goesAsTheModel(int run, int[] answered, int[] refused) {
        for (int made = 0; made < CALLS; made++) {
            int kind = made % digestEvery == digestEvery - 1 ? DIGEST : kindOfCall(made);
            int[] with = argumentsFor(kind);
            String due = outcome(() -> onModel(kind, with));
            String got = outcome(() -> onDesk(kind, with));
            if (!due.equals(got)) {
                System.out.println("run " + run + ", call " + made + " of kind " + kind + " with " + Arrays.toString(with)
                        + ": " + got + ", due is " + due);
                return false;
            }
            if (due.startsWith("java")) {
                refused[kind]++;
            } else {
                answered[kind]++;
                sets += kind == 0 ? 1 : 0;
            }
        }
        return true;
    }

    private static String outcome(LongSupplier call) {
        try {
            return Long.toString(call.getAsLong());
        } catch (RuntimeException thrown) {
            return thrown.getClass().getName();
        }
    }

    /** Much is built at first, so that what is asked then tells something. */
    private int kindOfCall(int made) {
        int[] building = {0, 0, 1, 2, 2, 2, 3, 3, 9, 9, 4, 5};
        int[] trading = {12, 12, 12, 13, 15, 16, 17, 3, 4, 5, 20, 19};
        int[] row = made < 60 ? building : trading;
        if (random.nextInt(3) == 0) {
            return random.nextInt(KINDS);
        }
        return row[random.nextInt(row.length)];
    }

    private int near(int from, int to) {
        if (random.nextInt(80) == 0) {
            return ODD[random.nextInt(ODD.length)];
        }
        if (random.nextInt(40) == 0) {
            return random.nextBoolean() ? from - 1 : to + 1;
        }
        if (random.nextInt(8) == 0) {
            return random.nextBoolean() ? from : to;
        }
        return from + random.nextInt(Math.max(1, to - from + 1));
    }

    private int aSet() {
        return near(0, Math.max(0, sets - 1));
    }

    private int fieldsOf(int set) {
        return set >= 0 && set < sets ? model.ofSet(set, 0) : 6;
    }

    private int aField(int set) {
        return near(0, fieldsOf(set) - 1);
    }

    private int aVersion(int set) {
        return near(0, Math.max(0, set >= 0 && set < sets ? model.ofSet(set, 1) - 1 : 5));
    }

    private int someFields(int set) {
        return near(1, (1 << fieldsOf(set)) - 1);
    }

    private int fewFields(int set) {
        int one = 1 << random.nextInt(fieldsOf(set));
        return random.nextInt(10) == 0 ? someFields(set) : one | (random.nextBoolean() ? one : 1);
    }

    private int[] argumentsFor(int kind) {
        int set = aSet();
        int from = near(0, Math.max(0, set - 1));
        int reader = near(0, 5);
        int today = model.many(8);
        int first = random.nextBoolean() ? today : near(today, Math.min(359, today + 40));
        switch (kind) {
            case 0: return new int[] {near(1, 6)};
            case 1: return new int[] {set, aField(set), near(1, 99), near(0, 1000)};
            case 2: return new int[] {set, aField(set), from, aField(from), near(1, 100)};
            case 3: return new int[] {set, near(1, random.nextBoolean() ? 9999 : 3)};
            case 4: return new int[] {set, aField(set), near(0, 1000)};
            case 5: case 6: case 21: return new int[] {set, aVersion(set), aField(set), near(1, 100)};
            case 7: return new int[] {set, near(0, 6)};
            case 8: return new int[] {set, aVersion(set), aField(set), from, aVersion(from), aField(from)};
            case 9: return new int[] {reader % 3, set, someFields(set), near(1, 15), first, near(first, 359)};
            case 10: case 22: return new int[] {near(0, Math.max(0, model.many(3) - 1))};
            case 11: return new int[] {reader, set, near(0, 3), near(0, 359)};
            case 12: return readArguments(reader, set);
            case 13: return new int[] {reader % 3, set, fewFields(set)};
            case 14: return new int[] {near(0, Math.max(0, model.many(4) - 1)), near(0, 11)};
            case 15: return new int[] {reader, near(0, 6)};
            case 16: return new int[] {reader};
            case 17: return new int[] {near(1, random.nextInt(4) == 0 ? 30 : 3)};
            case 18: return new int[] {near(0, 8)};
            case 19: return new int[] {reader, set, someFields(set), near(1, 9999)};
            case 23: return new int[] {reader, set};
            default: return new int[] {};
        }
    }

    /** Mostly a READ of what is COVERED, as others are nearly always refused. */
    private int[] readArguments(int reader, int set) {
        int rows = near(1, set >= 0 && set < sets ? Math.max(1, model.ofSet(set, 2)) : 9);
        if (random.nextInt(5) != 0 && set >= 0 && set < sets) {
            int start = random.nextInt(24);
            for (int tried = 0; tried < 24; tried++) {
                int who = (start + tried) % 24 / 4;
                int purpose = (start + tried) % 4;
                int open = model.covered(who, set, purpose, model.many(8));
                if (open != 0) {
                    int some = open & random.nextInt(64);
                    return new int[] {who, set, some != 0 ? some : open, rows, purpose};
                }
            }
        }
        return new int[] {reader, set, someFields(set), rows, near(0, 3)};
    }

    private long onDesk(int kind, int[] a) {
        switch (kind) {
            case 0: return desk.set(a[0]);
            case 1: return desk.terms(a[0], a[1], a[2], a[3]);
            case 2: return desk.source(a[0], a[1], a[2], a[3], a[4]);
            case 3: return desk.version(a[0], a[1]);
            case 4: return desk.missing(a[0], a[1], a[2]);
            case 5: return desk.report(a[0], a[1], a[2], a[3]);
            case 6: return desk.harm(a[0], a[1], a[2]);
            case 7: return desk.ofSet(a[0], a[1]);
            case 8: return desk.isMadeOf(a[0], a[1], a[2], a[3], a[4], a[5]) ? 1 : 0;
            case 9: return desk.contract(a[0], a[1], a[2], a[3], a[4], a[5]);
            case 10: return desk.end(a[0]);
            case 11: return desk.covered(a[0], a[1], a[2], a[3]);
            case 12: return desk.read(a[0], a[1], a[2], a[3], a[4]);
            case 13: return desk.preview(a[0], a[1], a[2]);
            case 14: return desk.ofRead(a[0], a[1]);
            case 15: return desk.ofReader(a[0], a[1]);
            case 16: return desk.bill(a[0]);
            case 17: return desk.pass(a[0]);
            case 18: return desk.many(a[0]);
            case 19: return desk.quote(a[0], a[1], a[2], a[3]);
            case 20: return Double.doubleToLongBits(desk.meanWorth());
            case 21: return desk.creditBy(a[0], a[1], a[2], a[3]);
            case 22: return desk.neededBy(a[0]);
            case 23: return desk.previews(a[0], a[1]);
            default: return desk.digest();
        }
    }

    private long onModel(int kind, int[] a) {
        switch (kind) {
            case 0: return model.set(a[0]);
            case 1: return model.terms(a[0], a[1], a[2], a[3]);
            case 2: return model.source(a[0], a[1], a[2], a[3], a[4]);
            case 3: return model.version(a[0], a[1]);
            case 4: return model.missing(a[0], a[1], a[2]);
            case 5: return model.report(a[0], a[1], a[2], a[3]);
            case 6: return model.harm(a[0], a[1], a[2]);
            case 7: return model.ofSet(a[0], a[1]);
            case 8: return model.isMadeOf(a[0], a[1], a[2], a[3], a[4], a[5]) ? 1 : 0;
            case 9: return model.contract(a[0], a[1], a[2], a[3], a[4], a[5]);
            case 10: return model.end(a[0]);
            case 11: return model.covered(a[0], a[1], a[2], a[3]);
            case 12: return model.read(a[0], a[1], a[2], a[3], a[4]);
            case 13: return model.preview(a[0], a[1], a[2]);
            case 14: return model.ofRead(a[0], a[1]);
            case 15: return model.ofReader(a[0], a[1]);
            case 16: return model.bill(a[0]);
            case 17: return model.pass(a[0]);
            case 18: return model.many(a[0]);
            case 19: return model.quote(a[0], a[1], a[2], a[3]);
            case 20: return Double.doubleToLongBits(model.meanWorth());
            case 21: return model.creditBy(a[0], a[1], a[2], a[3]);
            case 22: return model.neededBy(a[0]);
            case 23: return model.previews(a[0], a[1]);
            default: return model.digest();
        }
    }
}
