import java.util.Arrays;
import java.util.List;

/**
 * Every call with every mix of numbers on and next to its bounds, on desks that are empty, half full, full and at
 * their last DAY: the class must answer, or refuse, as the model does, and a refused call must change nothing.
 */
public final class EdgeTest {
    private static final int MIN = Integer.MIN_VALUE;
    private static final int MAX = Integer.MAX_VALUE;
    /** What later calls answer is free. */
    private static final int MOST_CALLS = 512;

    private static final int[] SETS = {MIN, -1, 0, 1, 2, 3, 4, 7, 8, MAX};
    private static final int[] FEW_SETS = {-1, 0, 1, 3, 7, 8};
    private static final int[] FIELDS = {MIN, -1, 0, 1, 2, 5, 6, MAX};
    private static final int[] FEW_FIELDS = {-1, 0, 1, 5, 6};
    private static final int[] VERSIONS = {MIN, -1, 0, 1, 2, 5, 6, MAX};
    private static final int[] FEW_VERSIONS = {-1, 0, 1, 5, 6};
    private static final int[] READERS = {MIN, -1, 0, 1, 5, 6, MAX};
    private static final int[] FEW_READERS = {-1, 0, 5, 6};
    private static final int[] PURPOSES = {MIN, -1, 0, 3, 4, MAX};
    private static final int[] MASKS = {MIN, -1, 0, 1, 2, 3, 5, 7, 8, 32, 63, 64, 65, MAX};
    private static final int[] FEW_MASKS = {MIN, 0, 1, 7, 8, 63, 64};
    private static final int[] PURPOSE_MASKS = {-1, 0, 1, 15, 16};
    private static final int[] DAYS = {MIN, -1, 0, 5, 40, 41, 350, 359, 360, MAX};
    private static final int[] FROM_DAYS = {MIN, -1, 0, 4, 5, 349, 350, 358, 359, 360};
    private static final int[] TO_DAYS = {-1, 4, 5, 6, 350, 358, 359, 360, MAX};
    private static final int[] PRICES = {MIN, -1, 0, 1, 99, 100, MAX};
    private static final int[] RULES = {MIN, -1, 0, 1000, 1001, MAX};
    private static final int[] PERCENTS = {MIN, -1, 0, 1, 41, 100, 101, MAX};
    private static final int[] ROWS = {MIN, -1, 0, 1, 1000, 1001, 9999, 10000, MAX};
    private static final int[] NUMBERS = {MIN, -1, 0, 2, 3, 4, 15, 16, 39, 40, MAX};
    private static final int[] WHATS = {MIN, -1, 0, 1, 2, 3, 4, 5, 6, 7, 8, 9, 10, 11, 12, MAX};
    private static final int[] PASSES = {MIN, -1, 0, 1, 9, 10, 30, 31, MAX};

    private static int made = 0;
    private static int wrong = 0;

    private final String name;
    private final List<int[]> script;
    private DatamarketDesk desk;
    private Model model;
    private int calls;
    private long digest;

    private EdgeTest(String name, List<int[]> script) {
        this.name = name;
        this.script = script;
        startAnew();
    }

    public static void main(String[] args) {
        new EdgeTest("empty", Desks.EMPTY).sweep();
        new EdgeTest("some", Desks.SOME).sweep();
        new EdgeTest("full", Desks.FULL).sweep();
        new EdgeTest("last day", Desks.LAST_DAY).sweep();
        System.out.println(made + " calls at the edges, " + wrong + " wrong");
        if (wrong != 0) {
            System.exit(1);
        }
    }

    private static int[][] mixFor(int kind) {
        switch (kind) {
            case Calls.SET: return new int[][] {FIELDS};
            case Calls.TERMS: return new int[][] {SETS, FIELDS, PRICES, RULES};
            case Calls.SOURCE: return new int[][] {SETS, FIELDS, SETS, FIELDS, PERCENTS};
            case Calls.VERSION: return new int[][] {SETS, ROWS};
            case Calls.MISSING: return new int[][] {SETS, FIELDS, RULES};
            case Calls.REPORT: case Calls.CREDIT_BY: return new int[][] {SETS, VERSIONS, FIELDS, PERCENTS};
            case Calls.HARM: return new int[][] {SETS, VERSIONS, FIELDS};
            case Calls.OF_SET: return new int[][] {SETS, WHATS};
            case Calls.IS_MADE_OF: return new int[][] {SETS, FEW_VERSIONS, FIELDS, FEW_SETS, VERSIONS, FEW_FIELDS};
            case Calls.CONTRACT:
                return new int[][] {FEW_READERS, FEW_SETS, FEW_MASKS, PURPOSE_MASKS, FROM_DAYS, TO_DAYS};
            case Calls.END: case Calls.NEEDED_BY: return new int[][] {NUMBERS};
            case Calls.COVERED: return new int[][] {READERS, SETS, PURPOSES, DAYS};
            case Calls.READ: return new int[][] {READERS, SETS, MASKS, ROWS, PURPOSES};
            case Calls.PREVIEW: return new int[][] {READERS, SETS, MASKS};
            case Calls.OF_READ: return new int[][] {NUMBERS, WHATS};
            case Calls.OF_READER: return new int[][] {READERS, WHATS};
            case Calls.BILL: return new int[][] {READERS};
            case Calls.PASS: return new int[][] {PASSES};
            case Calls.MANY: return new int[][] {WHATS};
            case Calls.QUOTE: return new int[][] {READERS, SETS, MASKS, ROWS};
            case Calls.PREVIEWS: return new int[][] {READERS, SETS};
            default: return new int[][] {};
        }
    }

    private void startAnew() {
        desk = Desks.desk(script);
        model = Desks.model(script);
        calls = script.size() + 1;
        digest = desk.digest();
    }

    private void sweep() {
        for (int kind = 0; kind < Calls.KINDS; kind++) {
            int[][] mix = mixFor(kind);
            int[] at = new int[mix.length];
            int[] with = new int[mix.length];
            do {
                for (int place = 0; place < at.length; place++) {
                    with[place] = mix[place][at[place]];
                }
                compare(kind, with);
            } while (stepsOn(at, mix));
        }
    }

    private static boolean stepsOn(int[] at, int[][] mix) {
        for (int place = 0; place < at.length; place++) {
            at[place]++;
            if (at[place] < mix[place].length) {
                return true;
            }
            at[place] = 0;
        }
        return false;
    }

    private void compare(int kind, int[] with) {
        made++;
        if (calls + 3 > MOST_CALLS) {
            startAnew();
        }
        calls += 2;
        String due = Calls.outcome(() -> Calls.onModel(model, kind, with));
        String got = Calls.outcome(() -> Calls.onDesk(desk, kind, with));
        boolean changes = !Calls.isRefusal(due) && changesSomething(kind);
        boolean same = desk.digest() == (changes ? model.digest() : digest);
        if (!due.equals(got) || !same) {
            wrong++;
            System.out.println(name + ", call of kind " + kind + " with " + Arrays.toString(with) + ": " + got
                    + ", due is " + due + (same ? "" : ", and the digest is not as due behind it"));
        }
        if (changes || !same) {
            startAnew();
        }
    }

    private static boolean changesSomething(int kind) {
        switch (kind) {
            case Calls.SET: case Calls.TERMS: case Calls.SOURCE: case Calls.VERSION: case Calls.MISSING:
            case Calls.REPORT: case Calls.CONTRACT: case Calls.END: case Calls.READ: case Calls.PREVIEW:
            case Calls.BILL: case Calls.PASS: return true;
            default: return false;
        }
    }
}
