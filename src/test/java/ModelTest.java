import java.util.Arrays;
import java.util.Random;

/** Long runs of calls, the same each time, on the class and on the model: all answers must be the same. */
public final class ModelTest {
    private static final int RUNS = 1500;
    private static final int CALLS = 512;
    /** So often each call must have been answered, and refused, or the runs tell little. */
    private static final int FEWEST = 200;
    private static final int[] ODD = {Integer.MIN_VALUE, -1000, -2, -1, 0, 1, 6, 7, 16, 40, 64, 360, 1001, 10000,
        Integer.MAX_VALUE - 1, Integer.MAX_VALUE};

    private final Random random;
    private final DatamarketDesk desk = new DatamarketDesk();
    private final Model model = new Model();
    private final int digestEvery;
    private int sets = 0;

    private ModelTest(int run) {
        random = new Random(run);
        digestEvery = run % 10 == 0 ? 1 : 16;
    }

    public static void main(String[] args) {
        int wrong = 0;
        int[] answered = new int[Calls.KINDS];
        int[] refused = new int[Calls.KINDS];
        for (int run = 0; run < RUNS; run++) {
            if (!new ModelTest(run).goesAsTheModel(run, answered, refused)) {
                wrong++;
            }
        }
        for (int kind = 0; kind < Calls.KINDS; kind++) {
            boolean neverRefused = kind == Calls.MEAN_WORTH || kind == Calls.DIGEST;
            if (answered[kind] < FEWEST || !neverRefused && refused[kind] < FEWEST) {
                wrong++;
                System.out.println("calls of kind " + kind + " hardly come: " + answered[kind] + ", " + refused[kind]);
            }
        }
        System.out.println(RUNS + " runs, " + wrong + " wrong");
        if (wrong != 0) {
            System.exit(1);
        }
    }

    private boolean goesAsTheModel(int run, int[] answered, int[] refused) {
        for (int made = 0; made < CALLS; made++) {
            int kind = made % digestEvery == digestEvery - 1 ? Calls.DIGEST : kindOfCall(made);
            int[] with = argumentsFor(kind);
            String due = Calls.outcome(() -> Calls.onModel(model, kind, with));
            String got = Calls.outcome(() -> Calls.onDesk(desk, kind, with));
            if (!due.equals(got)) {
                System.out.println("run " + run + ", call " + made + " of kind " + kind
                        + " with " + Arrays.toString(with)
                        + ": " + got + ", due is " + due);
                return false;
            }
            if (Calls.isRefusal(due)) {
                refused[kind]++;
            } else {
                answered[kind]++;
                sets += kind == Calls.SET ? 1 : 0;
            }
        }
        return true;
    }

    /** Much is built at first, so that what is asked then tells something. */
    private int kindOfCall(int made) {
        int[] building = {
            Calls.SET, Calls.SET, Calls.TERMS, Calls.SOURCE, Calls.SOURCE, Calls.SOURCE, Calls.VERSION,
            Calls.VERSION, Calls.CONTRACT, Calls.CONTRACT, Calls.MISSING, Calls.REPORT};
        int[] trading = {
            Calls.READ, Calls.READ, Calls.READ, Calls.PREVIEW, Calls.OF_READER, Calls.BILL, Calls.PASS,
            Calls.VERSION, Calls.MISSING, Calls.REPORT, Calls.MEAN_WORTH, Calls.QUOTE};
        int[] row = made < 60 ? building : trading;
        if (random.nextInt(3) == 0) {
            return random.nextInt(Calls.KINDS);
        }
        return row[random.nextInt(row.length)];
    }

    private int near(int from, int to) {
        if (random.nextInt(80) == 0) {
            return ODD[random.nextInt(ODD.length)];
        }
        if (random.nextInt(40) == 0) {
            return random.nextBoolean() ? from - 1 : to + 1;
        }
        if (random.nextInt(8) == 0) {
            return random.nextBoolean() ? from : to;
        }
        return from + random.nextInt(Math.max(1, to - from + 1));
    }

    private int aSet() {
        return near(0, Math.max(0, sets - 1));
    }

    private int fieldsOf(int set) {
        return set >= 0 && set < sets ? model.ofSet(set, 0) : 6;
    }

    private int aField(int set) {
        return near(0, fieldsOf(set) - 1);
    }

    private int aVersion(int set) {
        return near(0, Math.max(0, set >= 0 && set < sets ? model.ofSet(set, 1) - 1 : 5));
    }

    private int someFields(int set) {
        return near(1, (1 << fieldsOf(set)) - 1);
    }

    private int fewFields(int set) {
        int one = 1 << random.nextInt(fieldsOf(set));
        return random.nextInt(10) == 0 ? someFields(set) : one | (random.nextBoolean() ? one : 1);
    }

    private int[] argumentsFor(int kind) {
        int set = aSet();
        int from = near(0, Math.max(0, set - 1));
        int reader = near(0, 5);
        int today = model.many(8);
        int first = random.nextBoolean() ? today : near(today, Math.min(359, today + 40));
        switch (kind) {
            case Calls.SET: return new int[] {near(1, 6)};
            case Calls.TERMS: return new int[] {set, aField(set), near(1, 99), near(0, 1000)};
            case Calls.SOURCE: return new int[] {set, aField(set), from, aField(from), near(1, 100)};
            case Calls.VERSION: return new int[] {set, near(1, random.nextBoolean() ? 9999 : 3)};
            case Calls.MISSING: return new int[] {set, aField(set), near(0, 1000)};
            case Calls.REPORT: case Calls.HARM: case Calls.CREDIT_BY:
                return new int[] {set, aVersion(set), aField(set), near(1, 100)};
            case Calls.OF_SET: return new int[] {set, near(0, 6)};
            case Calls.IS_MADE_OF:
                return new int[] {set, aVersion(set), aField(set), from, aVersion(from), aField(from)};
            case Calls.CONTRACT:
                return new int[] {reader % 3, set, someFields(set), near(1, 15), first, near(first, 359)};
            case Calls.END: case Calls.NEEDED_BY: return new int[] {near(0, Math.max(0, model.many(3) - 1))};
            case Calls.COVERED: return new int[] {reader, set, near(0, 3), near(0, 359)};
            case Calls.READ: return readArguments(reader, set);
            case Calls.PREVIEW: return new int[] {reader % 3, set, fewFields(set)};
            case Calls.OF_READ: return new int[] {near(0, Math.max(0, model.many(4) - 1)), near(0, 11)};
            case Calls.OF_READER: return new int[] {reader, near(0, 6)};
            case Calls.BILL: return new int[] {reader};
            case Calls.PASS: return new int[] {near(1, random.nextInt(4) == 0 ? 30 : 3)};
            case Calls.MANY: return new int[] {near(0, 8)};
            case Calls.QUOTE: return new int[] {reader, set, someFields(set), near(1, 9999)};
            case Calls.PREVIEWS: return new int[] {reader, set};
            default: return new int[] {};
        }
    }

    /** Mostly a READ of what is COVERED, as others are nearly always refused. */
    private int[] readArguments(int reader, int set) {
        int rows = near(1, set >= 0 && set < sets ? Math.max(1, model.ofSet(set, 2)) : 9);
        if (random.nextInt(5) != 0 && set >= 0 && set < sets) {
            int start = random.nextInt(24);
            for (int tried = 0; tried < 24; tried++) {
                int who = (start + tried) % 24 / 4;
                int purpose = (start + tried) % 4;
                int open = model.covered(who, set, purpose, model.many(8));
                if (open != 0) {
                    int some = open & random.nextInt(64);
                    return new int[] {who, set, some != 0 ? some : open, rows, purpose};
                }
            }
        }
        return new int[] {reader, set, someFields(set), rows, near(0, 3)};
    }
}
