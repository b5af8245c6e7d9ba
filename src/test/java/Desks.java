import java.util.ArrayList;
import java.util.List;

/** Scripts of calls that lead to the states at which bounds are looked for, for the class and for the model. */
final class Desks {
    static final List<int[]> EMPTY = List.of();
    static final List<int[]> SOME = some();
    static final List<int[]> FULL = full();
    static final List<int[]> LAST_DAY = lastDay();

    private Desks() { }

    static DatamarketDesk desk(List<int[]> script) {
        DatamarketDesk desk = new DatamarketDesk();
        for (int[] call : script) {
            Calls.onDesk(desk, call[0], arguments(call));
        }
        return desk;
    }

    static Model model(List<int[]> script) {
        Model model = new Model();
        for (int[] call : script) {
            Calls.onModel(model, call[0], arguments(call));
        }
        return model;
    }

    /** The script, and some calls more behind it. */
    static List<int[]> then(List<int[]> script, int[]... calls) {
        List<int[]> longer = new ArrayList<>(script);
        longer.addAll(List.of(calls));
        return longer;
    }

    static int[] call(int... kindAndArguments) {
        return kindAndArguments;
    }

    private static int[] arguments(int[] call) {
        int[] arguments = new int[call.length - 1];
        System.arraycopy(call, 1, arguments, 0, arguments.length);
        return arguments;
    }

    /** Four SETS, of 3, 2, 6 and 1 FIELDS, the last two without a VERSION; DAY 5. */
    private static List<int[]> some() {
        return then(EMPTY,
                call(Calls.SET, 3), call(Calls.SET, 2), call(Calls.SET, 6), call(Calls.SET, 1),
                call(Calls.TERMS, 0, 0, 30, 50), call(Calls.TERMS, 1, 1, 8, 0),
                call(Calls.SOURCE, 1, 0, 0, 0, 80), call(Calls.SOURCE, 1, 1, 0, 2, 60),
                call(Calls.SOURCE, 2, 5, 1, 0, 50),
                call(Calls.VERSION, 0, 3000), call(Calls.VERSION, 1, 2000), call(Calls.VERSION, 0, 1000),
                call(Calls.CONTRACT, 0, 0, 7, 15, 0, 40), call(Calls.CONTRACT, 0, 1, 1, 1, 3, 20),
                call(Calls.CONTRACT, 5, 0, 1, 8, 0, 359), call(Calls.CONTRACT, 0, 3, 1, 15, 0, 359),
                call(Calls.PASS, 5),
                call(Calls.READ, 0, 0, 3, 1000, 2), call(Calls.READ, 0, 0, 7, 500, 0), call(Calls.READ, 5, 0, 1, 1, 3),
                call(Calls.MISSING, 0, 1, 700), call(Calls.REPORT, 0, 0, 0, 40),
                call(Calls.PREVIEW, 1, 0, 2), call(Calls.PREVIEW, 0, 0, 1), call(Calls.BILL, 5));
    }

    /** As many SETS, FIELDS, SOURCES, VERSIONS, CONTRACTS and READS as there may be; DAY 350. */
    private static List<int[]> full() {
        List<int[]> script = new ArrayList<>();
        for (int set = 0; set < 8; set++) {
            script.add(call(Calls.SET, 6));
        }
        for (int made = 0; made < 20; made++) {
            script.add(call(Calls.SOURCE, made % 7 + 1, made % 6, made % (made % 7 + 1), made % 5, 50 + made));
        }
        for (int version = 0; version < 6; version++) {
            for (int set = 0; set < 8; set++) {
                script.add(call(Calls.VERSION, set, version == 5 ? 9999 : set + 1));
            }
        }
        for (int contract = 0; contract < 16; contract++) {
            script.add(call(Calls.CONTRACT, contract % 6, contract % 8, 63, 15, contract % 3, 359 - contract % 2));
        }
        for (int passed = 0; passed < 10; passed++) {
            script.add(call(Calls.PASS, 30));
        }
        script.add(call(Calls.PASS, 29));
        script.add(call(Calls.PASS, 21));
        for (int read = 0; read < 40; read++) {
            script.add(call(Calls.READ, read % 16 % 6, read % 16 % 8, 63 - read % 6, 100 * read + 1, read % 4));
        }
        for (int set = 0; set < 8; set++) {
            script.add(call(Calls.REPORT, set, 5, set % 6, 10 * set + 7));
        }
        script.add(call(Calls.MISSING, 0, 0, 500));
        script.add(call(Calls.PREVIEW, 0, 0, 5));
        script.add(call(Calls.PREVIEW, 5, 7, 32));
        script.add(call(Calls.BILL, 3));
        script.add(call(Calls.END, 15));
        return script;
    }

    /** A CONTRACT for the last DAY alone, on that DAY. */
    private static List<int[]> lastDay() {
        List<int[]> script = then(EMPTY, call(Calls.SET, 2), call(Calls.VERSION, 0, 100),
                call(Calls.CONTRACT, 0, 0, 3, 15, 359, 359), call(Calls.CONTRACT, 1, 0, 1, 1, 0, 358));
        for (int passed = 0; passed < 11; passed++) {
            script.add(call(Calls.PASS, 30));
        }
        script.add(call(Calls.PASS, 29));
        return script;
    }
}
