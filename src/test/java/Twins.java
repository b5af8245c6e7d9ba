import java.util.ArrayList;
import java.util.List;
import java.util.function.ToLongFunction;

/**
 * A desk that refused a call must go on as its twin, that was never asked so. The digest does not show all that is
 * kept (PRICE, RULE, what was told, SHARES, last DAYS), so both go on with calls whose answers hang on these.
 */
final class Twins {
    private interface Probe {
        void run(DatamarketDesk x, List<String> answers);
    }

    private static final List<Probe> PROBES = List.of(Twins::asks, Twins::tells, Twins::makes, Twins::trades);

    private Twins() { }

    /** What is wrong with the refusal, or an empty text. */
    static String wrongOf(List<int[]> script, Class<?> want, ToLongFunction<DatamarketDesk> call) {
        for (Probe probe : PROBES) {
            DatamarketDesk refused = Desks.desk(script);
            for (int time = 0; time < 2; time++) {
                String got = Calls.outcome(() -> call.applyAsLong(refused));
                if (!got.equals(want.getName())) {
                    return "answered " + got + ", due is " + want.getName();
                }
            }
            List<String> answers = new ArrayList<>();
            List<String> due = new ArrayList<>();
            probe.run(refused, answers);
            probe.run(Desks.desk(script), due);
            if (!answers.equals(due)) {
                return "was refused, and changed something";
            }
        }
        return "";
    }

    private static void ask(List<String> answers, DatamarketDesk x, ToLongFunction<DatamarketDesk> call) {
        answers.add(Calls.outcome(() -> call.applyAsLong(x)));
    }

    /** PRICES, and what is COVERED for the PURPOSES that the digest leaves out. */
    private static void asks(DatamarketDesk x, List<String> answers) {
        ask(answers, x, DatamarketDesk::digest);
        for (int set = 0; set < x.many(0); set++) {
            int asked = set;
            for (int field = 0; field < 6; field++) {
                int mask = 1 << field;
                ask(answers, x, y -> y.quote(1, asked, mask, 9999));
            }
            for (int reader = 0; reader < 6; reader++) {
                int who = reader;
                ask(answers, x, y -> y.covered(who, asked, 1, y.many(8)));
                ask(answers, x, y -> y.covered(who, asked, 3, 359));
            }
        }
    }

    /** What was told, and the RULES: of the LATEST VERSION, and of one more. */
    private static void tells(DatamarketDesk x, List<String> answers) {
        for (int set = 0; set < x.many(0); set++) {
            int asked = set;
            for (int time = 0; time < 2; time++) {
                for (int field = 0; field < 6; field++) {
                    int told = field;
                    ask(answers, x, y -> y.missing(asked, told, 1000));
                }
                ask(answers, x, y -> y.version(asked, 1));
            }
        }
        ask(answers, x, DatamarketDesk::digest);
    }

    /** What the next VERSIONS are made of, with what SHARES. */
    private static void makes(DatamarketDesk x, List<String> answers) {
        for (int set = 0; set < x.many(0); set++) {
            int asked = set;
            ask(answers, x, y -> y.version(asked, 5));
        }
        for (int set = 0; set < x.many(0); set++) {
            int asked = set;
            for (int field = 0; field < 6; field++) {
                int told = field;
                ask(answers, x, y -> y.source(asked, told, 0, 0, 77));
                ask(answers, x, y -> y.report(asked, y.ofSet(asked, 1) - 1, told, 40 + 7 * asked + told));
            }
            ask(answers, x, DatamarketDesk::digest);
        }
    }

    /** READS, PREVIEWS, CONTRACTS and their last DAYS, and the next DAYS. */
    private static void trades(DatamarketDesk x, List<String> answers) {
        for (int set = 0; set < x.many(0); set++) {
            int asked = set;
            for (int reader = 0; reader < 6; reader++) {
                int who = reader;
                ask(answers, x, y -> y.preview(who, asked, 1));
                ask(answers, x, y -> y.preview(who, asked, 2));
            }
            ask(answers, x, y -> y.read(0, asked, 1, 1, 0));
        }
        for (int contract = 0; contract < x.many(3); contract++) {
            int ended = contract;
            ask(answers, x, y -> y.end(ended));
        }
        for (int reader = 0; reader < 6; reader++) {
            int who = reader;
            ask(answers, x, y -> y.bill(who));
        }
        ask(answers, x, y -> y.contract(0, 0, 1, 1, 359, 359));
        ask(answers, x, y -> y.set(1));
        ask(answers, x, y -> y.pass(1));
        ask(answers, x, DatamarketDesk::digest);
    }
}
