import java.util.List;
import java.util.function.IntFunction;
import java.util.function.ToLongFunction;

/**
 * Each sentence "Throws .. if ..": just inside its bound the call is answered, just outside it is refused by just
 * that exception, of several the one that is named first is thrown, and a refused call changes nothing.
 */
public final class RefusalTest {
    private static final int MIN = Integer.MIN_VALUE;
    private static final int MAX = Integer.MAX_VALUE;
    private static final List<int[]> EMPTY = Desks.EMPTY;
    private static final List<int[]> SOME = Desks.SOME;
    private static final List<int[]> FULL = Desks.FULL;
    private static final List<int[]> LAST_DAY = Desks.LAST_DAY;
    private static final Class<?> BOUNDS = IndexOutOfBoundsException.class;
    private static final Class<?> ARGUMENT = IllegalArgumentException.class;
    private static final Class<?> STATE = IllegalStateException.class;

    private static int made = 0;
    private static int wrong = 0;

    public static void main(String[] args) {
        set();
        terms();
        source();
        version();
        missing();
        report();
        harm();
        ofSet();
        isMadeOf();
        contract();
        contractDays();
        end();
        covered();
        read();
        readStates();
        preview();
        previewStates();
        ofRead();
        ofReader();
        bill();
        pass();
        many();
        quote();
        creditBy();
        previews();
        neededBy();
        System.out.println(made + " calls on and next to bounds, " + wrong + " wrong");
        if (wrong != 0) {
            System.exit(1);
        }
    }

    private static void answers(String what, List<int[]> script, long want, ToLongFunction<DatamarketDesk> call) {
        made++;
        DatamarketDesk desk = Desks.desk(script);
        String got = Calls.outcome(() -> call.applyAsLong(desk));
        if (!got.equals(Long.toString(want))) {
            wrong++;
            System.out.println(what + ": answered " + got + ", due is " + want);
        }
    }

    private static void refuses(String what, List<int[]> script, Class<?> want, ToLongFunction<DatamarketDesk> call) {
        made++;
        String is = Twins.wrongOf(script, want, call);
        if (!is.isEmpty()) {
            wrong++;
            System.out.println(what + ": " + is);
        }
    }

    /** The call is refused with each of these numbers. */
    private static void refusesEach(String what, int[] numbers, List<int[]> script, Class<?> want,
            IntFunction<ToLongFunction<DatamarketDesk>> calls) {
        for (int number : numbers) {
            refuses(what + " " + number, script, want, calls.apply(number));
        }
    }

    private static int[] outside(int least, int greatest) {
        return new int[] {MIN, least - 1, greatest + 1, greatest + 2, MAX};
    }

    private static void set() {
        List<int[]> seven = Desks.then(EMPTY, Desks.call(Calls.SET, 1), Desks.call(Calls.SET, 1),
                Desks.call(Calls.SET, 1), Desks.call(Calls.SET, 1), Desks.call(Calls.SET, 1),
                Desks.call(Calls.SET, 1), Desks.call(Calls.SET, 1));
        refusesEach("2 fields", outside(1, 6), EMPTY, ARGUMENT, bad -> x -> x.set(bad));
        refusesEach("2 fields, and there are 8", outside(1, 6), FULL, ARGUMENT, bad -> x -> x.set(bad));
        answers("2 fields 1", EMPTY, 0, x -> x.set(1));
        answers("2 fields 6", EMPTY, 0, x -> x.set(6));
        answers("2 there are 7", seven, 7, x -> x.set(6));
        refuses("2 there are 8", FULL, STATE, x -> x.set(1));
        refuses("2 there are 8", FULL, STATE, x -> x.set(6));
    }

    private static void terms() {
        refuses("3 without a set", EMPTY, BOUNDS, x -> x.terms(0, 0, 10, 1000));
        refusesEach("3 set", outside(0, 3), SOME, BOUNDS, bad -> x -> x.terms(bad, 0, 11, 500));
        refusesEach("3 set", outside(0, 7), FULL, BOUNDS, bad -> x -> x.terms(bad, 0, 11, 500));
        refusesEach("3 field of 3", outside(0, 2), SOME, BOUNDS, bad -> x -> x.terms(0, bad, 11, 500));
        refusesEach("3 field of 1", outside(0, 0), SOME, BOUNDS, bad -> x -> x.terms(3, bad, 11, 500));
        refusesEach("3 field of 6", outside(0, 5), FULL, BOUNDS, bad -> x -> x.terms(7, bad, 11, 500));
        refusesEach("3 price", outside(1, 99), SOME, ARGUMENT, bad -> x -> x.terms(1, 0, bad, 500));
        refusesEach("3 rule", outside(0, 1000), SOME, ARGUMENT, bad -> x -> x.terms(1, 0, 11, bad));
        answers("3 last field, greatest price", FULL, 10, x -> x.terms(7, 5, 99, 1000));
        answers("3 first field, least price", SOME, 30, x -> x.terms(0, 0, 1, 0));
        refuses("3 set, field, price and rule", SOME, BOUNDS, x -> x.terms(4, 9, 0, -1));
        refuses("3 field, price and rule", SOME, BOUNDS, x -> x.terms(1, 2, 100, 1001));
        refuses("3 price and rule", SOME, ARGUMENT, x -> x.terms(1, 0, 100, 1001));
    }

    private static void source() {
        refusesEach("4 set", outside(0, 3), SOME, BOUNDS, bad -> x -> x.source(bad, 0, 0, 0, 5));
        refusesEach("4 field", outside(0, 1), SOME, BOUNDS, bad -> x -> x.source(1, bad, 0, 0, 5));
        refusesEach("4 from", outside(0, 3), SOME, BOUNDS, bad -> x -> x.source(1, 0, bad, 0, 5));
        refusesEach("4 source", outside(0, 2), SOME, BOUNDS, bad -> x -> x.source(1, 0, 0, bad, 5));
        refusesEach("4 from is not below set", new int[] {1, 2, 3}, SOME, ARGUMENT,
                bad -> x -> x.source(1, 0, bad, 0, 5));
        refuses("4 from the set itself, another field", SOME, ARGUMENT, x -> x.source(1, 0, 1, 1, 5));
        refuses("4 the first set of itself", SOME, ARGUMENT, x -> x.source(0, 0, 0, 1, 5));
        answers("4 from one below", SOME, 2, x -> x.source(2, 5, 1, 1, 5));
        answers("4 from the first", SOME, 2, x -> x.source(2, 5, 0, 2, 5));
        refusesEach("4 share of a new one", outside(1, 100), SOME, ARGUMENT, bad -> x -> x.source(2, 0, 0, 0, bad));
        refusesEach("4 share of an old one", outside(1, 100), SOME, ARGUMENT, bad -> x -> x.source(1, 0, 0, 0, bad));
        answers("4 share 1", SOME, 1, x -> x.source(2, 0, 0, 0, 1));
        answers("4 share 100", SOME, 1, x -> x.source(2, 0, 0, 0, 100));
        refuses("4 there are 20", FULL, STATE, x -> x.source(7, 5, 6, 5, 5));
        refuses("4 there are 20, and it has none", FULL, STATE, x -> x.source(1, 5, 0, 5, 100));
        answers("4 an old one, and there are 20", FULL, 1, x -> x.source(1, 0, 0, 0, 100));
        refuses("4 bounds, and from not below set", SOME, BOUNDS, x -> x.source(1, 0, 2, 6, 0));
        refuses("4 bounds, from and share", SOME, BOUNDS, x -> x.source(1, 2, 1, 0, 0));
        refuses("4 bounds, and there are 20", FULL, BOUNDS, x -> x.source(7, 6, 6, 5, 5));
        refuses("4 from, and there are 20", FULL, ARGUMENT, x -> x.source(6, 5, 7, 5, 5));
        refuses("4 share, and there are 20", FULL, ARGUMENT, x -> x.source(7, 5, 6, 5, 101));
        refuses("4 all three", FULL, BOUNDS, x -> x.source(8, 5, 8, 5, 101));
    }

    private static void version() {
        List<int[]> five = Desks.then(EMPTY, Desks.call(Calls.SET, 1), Desks.call(Calls.VERSION, 0, 1),
                Desks.call(Calls.VERSION, 0, 2), Desks.call(Calls.VERSION, 0, 3), Desks.call(Calls.VERSION, 0, 4),
                Desks.call(Calls.VERSION, 0, 5));
        refuses("5 without a set", EMPTY, BOUNDS, x -> x.version(0, 1));
        refusesEach("5 set", outside(0, 3), SOME, BOUNDS, bad -> x -> x.version(bad, 1));
        refusesEach("5 rows", outside(1, 9999), SOME, ARGUMENT, bad -> x -> x.version(2, bad));
        answers("5 rows 1", SOME, 0, x -> x.version(2, 1));
        answers("5 rows 9999", SOME, 2, x -> x.version(0, 9999));
        answers("5 the sixth", five, 5, x -> x.version(0, 1));
        refuses("5 there are 6", FULL, STATE, x -> x.version(0, 1));
        refuses("5 there are 6", FULL, STATE, x -> x.version(7, 9999));
        refuses("5 set and rows", FULL, BOUNDS, x -> x.version(8, 0));
        refuses("5 rows, and there are 6", FULL, ARGUMENT, x -> x.version(7, 10000));
    }

    private static void missing() {
        refuses("6 without a set", EMPTY, BOUNDS, x -> x.missing(0, 0, 1));
        refusesEach("6 set", outside(0, 3), SOME, BOUNDS, bad -> x -> x.missing(bad, 0, 500));
        refusesEach("6 field", outside(0, 1), SOME, BOUNDS, bad -> x -> x.missing(1, bad, 500));
        refusesEach("6 missing", outside(0, 1000), SOME, ARGUMENT, bad -> x -> x.missing(1, 1, bad));
        answers("6 missing 0", SOME, 0, x -> x.missing(1, 1, 0));
        answers("6 missing 1000", SOME, 100, x -> x.missing(1, 1, 1000));
        refuses("6 no version", SOME, STATE, x -> x.missing(2, 0, 500));
        refuses("6 told, though of the rule", Desks.then(SOME, Desks.call(Calls.MISSING, 1, 1, 0)), STATE,
                x -> x.missing(1, 1, 1000));
        refuses("6 told", FULL, STATE, x -> x.missing(0, 0, 500));
        answers("6 told of another field", FULL, 0, x -> x.missing(0, 1, 500));
        refuses("6 field and missing", SOME, BOUNDS, x -> x.missing(2, 6, 1001));
        refuses("6 missing, and no version", SOME, ARGUMENT, x -> x.missing(2, 0, 1001));
        refuses("6 missing, and told", FULL, ARGUMENT, x -> x.missing(0, 0, -1));
        refuses("6 field, and no version", SOME, BOUNDS, x -> x.missing(2, 6, 500));
    }

    private static void report() {
        refuses("7 without a set", EMPTY, BOUNDS, x -> x.report(0, 0, 0, 1));
        refusesEach("7 set", outside(0, 3), SOME, BOUNDS, bad -> x -> x.report(bad, 0, 0, 99));
        refusesEach("7 version", outside(0, 1), SOME, BOUNDS, bad -> x -> x.report(0, bad, 0, 99));
        refusesEach("7 version of a set without one", outside(0, -1), SOME, BOUNDS,
                bad -> x -> x.report(2, bad, 0, 99));
        refusesEach("7 version", outside(0, 5), FULL, BOUNDS, bad -> x -> x.report(7, bad, 5, 99));
        refusesEach("7 field", outside(0, 1), SOME, BOUNDS, bad -> x -> x.report(1, 0, bad, 99));
        refusesEach("7 field", outside(0, 5), FULL, BOUNDS, bad -> x -> x.report(7, 5, bad, 99));
        refusesEach("7 harm", outside(1, 100), SOME, ARGUMENT, bad -> x -> x.report(0, 1, 1, bad));
        // READ for 300, 150 and 0
        answers("7 harm 1", SOME, 3 + 1, x -> x.report(0, 1, 0, 1));
        answers("7 harm 100", SOME, 300 + 150, x -> x.report(0, 1, 0, 100));
        refuses("7 bounds and harm", SOME, BOUNDS, x -> x.report(0, 2, 0, 0));
        refuses("7 bounds and harm", SOME, BOUNDS, x -> x.report(0, 0, 3, 101));
    }

    private static void harm() {
        refuses("8 without a set", EMPTY, BOUNDS, x -> x.harm(0, 0, 0));
        refusesEach("8 set", outside(0, 3), SOME, BOUNDS, bad -> x -> x.harm(bad, 0, 0));
        refusesEach("8 version", outside(0, 1), SOME, BOUNDS, bad -> x -> x.harm(0, bad, 0));
        refusesEach("8 version of a set without one", outside(0, -1), SOME, BOUNDS, bad -> x -> x.harm(3, bad, 0));
        refusesEach("8 field", outside(0, 2), SOME, BOUNDS, bad -> x -> x.harm(0, 1, bad));
        answers("8 last of all", FULL, 77, x -> x.harm(7, 5, 1));
        refuses("8 version 6", FULL, BOUNDS, x -> x.harm(7, 6, 0));
    }

    private static void ofSet() {
        refuses("9 without a set", EMPTY, BOUNDS, x -> x.ofSet(0, 0));
        refusesEach("9 set", outside(0, 3), SOME, BOUNDS, bad -> x -> x.ofSet(bad, 0));
        refusesEach("9 what", outside(0, 6), SOME, ARGUMENT, bad -> x -> x.ofSet(0, bad));
        refusesEach("9 what", outside(0, 6), FULL, ARGUMENT, bad -> x -> x.ofSet(7, bad));
        refuses("9 set and what", SOME, BOUNDS, x -> x.ofSet(4, 7));
        answers("9 what 0", SOME, 1, x -> x.ofSet(3, 0));
    }

    private static void isMadeOf() {
        int[] sets = outside(0, 3);
        refusesEach("10 set", sets, SOME, BOUNDS, bad -> x -> x.isMadeOf(bad, 0, 0, 0, 0, 0) ? 1 : 0);
        refusesEach("10 from", sets, SOME, BOUNDS, bad -> x -> x.isMadeOf(1, 0, 0, bad, 0, 0) ? 1 : 0);
        refusesEach("10 version", outside(0, 0), SOME, BOUNDS, bad -> x -> x.isMadeOf(1, bad, 0, 0, 0, 0) ? 1 : 0);
        refusesEach("10 other", outside(0, 1), SOME, BOUNDS, bad -> x -> x.isMadeOf(1, 0, 0, 0, bad, 0) ? 1 : 0);
        refusesEach("10 field", outside(0, 1), SOME, BOUNDS, bad -> x -> x.isMadeOf(1, 0, bad, 0, 0, 0) ? 1 : 0);
        refusesEach("10 source", outside(0, 2), SOME, BOUNDS, bad -> x -> x.isMadeOf(1, 0, 0, 0, 0, bad) ? 1 : 0);
        refuses("10 a set without a version", SOME, BOUNDS, x -> x.isMadeOf(2, 0, 5, 1, 0, 0) ? 1 : 0);
        refuses("10 of a set without a version", SOME, BOUNDS, x -> x.isMadeOf(1, 0, 0, 2, 0, 0) ? 1 : 0);
        refuses("10 of itself, that is not there", SOME, BOUNDS, x -> x.isMadeOf(2, 0, 0, 2, 0, 0) ? 1 : 0);
        answers("10 of itself", SOME, 0, x -> x.isMadeOf(1, 0, 1, 1, 0, 1) ? 1 : 0);
        answers("10 at once", SOME, 1, x -> x.isMadeOf(1, 0, 1, 0, 0, 2) ? 1 : 0);
        answers("10 a later version", SOME, 0, x -> x.isMadeOf(1, 0, 1, 0, 1, 2) ? 1 : 0);
    }

    private static void contract() {
        refuses("11 without a set", EMPTY, BOUNDS, x -> x.contract(0, 0, 1, 1, 0, 0));
        refusesEach("11 reader", outside(0, 5), SOME, BOUNDS, bad -> x -> x.contract(bad, 0, 1, 1, 5, 5));
        refusesEach("11 set", outside(0, 3), SOME, BOUNDS, bad -> x -> x.contract(0, bad, 1, 1, 5, 5));
        refusesEach("11 fields of 3", new int[] {MIN, -8, -1, 0, 8, 9, 16, 64, 1 << 30, MAX}, SOME, ARGUMENT,
                bad -> x -> x.contract(0, 0, bad, 1, 5, 5));
        refusesEach("11 fields of 1", new int[] {MIN, -1, 0, 2, 3, MAX}, SOME, ARGUMENT,
                bad -> x -> x.contract(0, 3, bad, 1, 5, 5));
        refusesEach("11 fields of 6", new int[] {MIN, -1, 0, 64, 65, 127, MAX}, SOME, ARGUMENT,
                bad -> x -> x.contract(0, 2, bad, 1, 5, 5));
        refusesEach("11 purposes", outside(1, 15), SOME, ARGUMENT, bad -> x -> x.contract(0, 0, 1, bad, 5, 5));
        answers("11 one field, one purpose", SOME, 4, x -> x.contract(0, 3, 1, 1, 5, 5));
        answers("11 all of 3 fields", SOME, 4, x -> x.contract(5, 0, 7, 15, 5, 5));
        answers("11 all of 6 fields", SOME, 4, x -> x.contract(0, 2, 63, 8, 5, 5));
        refuses("11 there are 16", FULL, STATE, x -> x.contract(0, 0, 1, 1, 350, 350));
        refuses("11 there are 16", FULL, STATE, x -> x.contract(5, 7, 63, 15, 359, 359));
        refuses("11 reader, and all else", FULL, BOUNDS, x -> x.contract(6, 0, 0, 0, 349, 360));
        refuses("11 set, and all else", FULL, BOUNDS, x -> x.contract(0, 8, 64, 16, 349, 360));
        refuses("11 fields, and there are 16", FULL, ARGUMENT, x -> x.contract(0, 0, 64, 1, 350, 350));
        refuses("11 purposes, and there are 16", FULL, ARGUMENT, x -> x.contract(0, 0, 1, 16, 350, 350));
        refuses("11 from, and there are 16", FULL, ARGUMENT, x -> x.contract(0, 0, 1, 1, 349, 350));
        refuses("11 to, and there are 16", FULL, ARGUMENT, x -> x.contract(0, 0, 1, 1, 350, 360));
        refuses("11 set, and there are 16", FULL, BOUNDS, x -> x.contract(0, 8, 1, 1, 350, 350));
    }

    private static void contractDays() {
        refusesEach("11 from, the DAY is 5", new int[] {MIN, -1, 0, 4}, SOME, ARGUMENT,
                bad -> x -> x.contract(0, 0, 1, 1, bad, 20));
        refusesEach("11 from, the DAY is 0", new int[] {MIN, -1}, Desks.then(EMPTY, Desks.call(Calls.SET, 1)), ARGUMENT,
                bad -> x -> x.contract(0, 0, 1, 1, bad, 0));
        refusesEach("11 to is below from", new int[] {MIN, -1, 0, 5, 9}, SOME, ARGUMENT,
                bad -> x -> x.contract(0, 0, 1, 1, 10, bad));
        refusesEach("11 to is above 359", new int[] {360, 361, MAX}, SOME, ARGUMENT,
                bad -> x -> x.contract(0, 0, 1, 1, 5, bad));
        refusesEach("11 both are above 359", new int[] {360, MAX}, SOME, ARGUMENT,
                bad -> x -> x.contract(0, 0, 1, 1, bad, bad));
        refuses("11 from is above 359", SOME, ARGUMENT, x -> x.contract(0, 0, 1, 1, 360, 359));
        answers("11 for today alone", SOME, 4, x -> x.contract(0, 0, 1, 1, 5, 5));
        answers("11 to one behind from", SOME, 4, x -> x.contract(0, 0, 1, 1, 10, 11));
        answers("11 for the last DAY alone", SOME, 4, x -> x.contract(0, 0, 1, 1, 359, 359));
        answers("11 for all that is left", SOME, 4, x -> x.contract(0, 0, 1, 1, 5, 359));
        answers("11 on the last DAY", LAST_DAY, 2, x -> x.contract(0, 0, 1, 1, 359, 359));
        refuses("11 on the last DAY, from the one before", LAST_DAY, ARGUMENT, x -> x.contract(0, 0, 1, 1, 358, 359));
    }

    private static void end() {
        refusesEach("12 without one", new int[] {MIN, -1, 0, MAX}, EMPTY, BOUNDS, bad -> x -> x.end(bad));
        refusesEach("12 contract", outside(0, 3), SOME, BOUNDS, bad -> x -> x.end(bad));
        refusesEach("12 contract", outside(0, 15), FULL, BOUNDS, bad -> x -> x.end(bad));
        answers("12 the first", FULL, 9, x -> x.end(0));
        answers("12 the last but one", FULL, 9, x -> x.end(14));
        answers("12 the last, that was ended", FULL, 0, x -> x.end(15));
    }

    private static void covered() {
        refuses("13 without a set", EMPTY, BOUNDS, x -> x.covered(0, 0, 0, 0));
        refusesEach("13 reader", outside(0, 5), SOME, BOUNDS, bad -> x -> x.covered(bad, 0, 0, 5));
        refusesEach("13 set", outside(0, 3), SOME, BOUNDS, bad -> x -> x.covered(0, bad, 0, 5));
        refusesEach("13 purpose", outside(0, 3), SOME, BOUNDS, bad -> x -> x.covered(0, 0, bad, 5));
        refusesEach("13 day", outside(0, 359), SOME, ARGUMENT, bad -> x -> x.covered(0, 0, 0, bad));
        answers("13 day 0", SOME, 7, x -> x.covered(0, 0, 3, 0));
        answers("13 day 359", SOME, 1, x -> x.covered(5, 0, 3, 359));
        refuses("13 bounds and day", SOME, BOUNDS, x -> x.covered(6, 0, 0, 360));
        refuses("13 bounds and day", SOME, BOUNDS, x -> x.covered(0, 4, 0, -1));
        refuses("13 bounds and day", SOME, BOUNDS, x -> x.covered(0, 0, 4, 360));
    }

    private static void read() {
        refuses("14 without a set", EMPTY, BOUNDS, x -> x.read(0, 0, 1, 1, 0));
        refusesEach("14 reader", outside(0, 5), SOME, BOUNDS, bad -> x -> x.read(bad, 0, 1, 1, 0));
        refusesEach("14 set", outside(0, 3), SOME, BOUNDS, bad -> x -> x.read(0, bad, 1, 1, 0));
        refusesEach("14 purpose", outside(0, 3), SOME, BOUNDS, bad -> x -> x.read(0, 0, 1, 1, bad));
        refusesEach("14 fields of 3", new int[] {MIN, -1, 0, 8, 9, 15, MAX}, SOME, ARGUMENT,
                bad -> x -> x.read(0, 0, bad, 1, 0));
        refusesEach("14 rows", new int[] {MIN, -1, 0}, SOME, ARGUMENT, bad -> x -> x.read(0, 0, 1, bad, 0));
        refuses("14 reader, and all else", FULL, BOUNDS, x -> x.read(-1, 0, 0, 0, 0));
        refuses("14 purpose, and all else", FULL, BOUNDS, x -> x.read(0, 0, 64, 0, 4));
        refuses("14 fields, and there are 40", FULL, ARGUMENT, x -> x.read(0, 0, 64, 1, 0));
        refuses("14 rows, and there are 40", FULL, ARGUMENT, x -> x.read(0, 0, 1, 0, 0));
        refuses("14 set, and there are 40", FULL, BOUNDS, x -> x.read(0, 8, 1, 1, 0));
        refuses("14 fields, and no version", SOME, ARGUMENT, x -> x.read(0, 3, 2, 1, 0));
        refuses("14 rows, and not covered", SOME, ARGUMENT, x -> x.read(4, 0, 1, 0, 0));
        refuses("14 fields, and not covered", SOME, ARGUMENT, x -> x.read(4, 0, 8, 1, 0));
    }

    private static void readStates() {
        refuses("14 there are 40", FULL, STATE, x -> x.read(0, 0, 1, 1, 0));
        refusesEach("14 more rows than the latest has", new int[] {1001, 2000, 3000, 9999, 10000, MAX}, SOME, STATE,
                bad -> x -> x.read(0, 0, 1, bad, 0));
        // 3500 UNITS before: TIER 4; 1000 * 30 * 4 / 400
        answers("14 all rows of the latest", SOME, 300, x -> x.read(0, 0, 1, 1000, 0));
        answers("14 one row", SOME, 0, x -> x.read(0, 0, 1, 1, 0));
        refuses("14 no version, one row", SOME, STATE, x -> x.read(0, 3, 1, 1, 0));
        refuses("14 no contract of the reader", SOME, STATE, x -> x.read(4, 0, 1, 1, 0));
        refuses("14 a field beside the contract", SOME, STATE, x -> x.read(5, 0, 3, 1, 3));
        refuses("14 a field alone beside the contract", SOME, STATE, x -> x.read(5, 0, 2, 1, 3));
        refuses("14 another purpose than the contract's", SOME, STATE, x -> x.read(5, 0, 1, 1, 2));
        answers("14 what the contract is for", SOME, 0, x -> x.read(5, 0, 1, 1, 3));
        answers("14 the contract's last DAY", Desks.then(SOME, Desks.call(Calls.PASS, 15)), 20,
                x -> x.read(0, 1, 1, 200, 0));
        refuses("14 a DAY behind the contract", Desks.then(SOME, Desks.call(Calls.PASS, 16)), STATE,
                x -> x.read(0, 1, 1, 200, 0));
        refuses("14 the DAY before the contract",
                Desks.then(SOME, Desks.call(Calls.CONTRACT, 3, 0, 7, 15, 6, 8)), STATE, x -> x.read(3, 0, 1, 1, 0));
        answers("14 the contract's first DAY",
                Desks.then(SOME, Desks.call(Calls.CONTRACT, 3, 0, 7, 15, 6, 8), Desks.call(Calls.PASS, 1)), 3,
                x -> x.read(3, 0, 1, 10, 0));
        answers("14 on the last DAY", LAST_DAY, 20, x -> x.read(0, 0, 3, 100, 0));
        refuses("14 a DAY behind it, the last DAY", LAST_DAY, STATE, x -> x.read(1, 0, 1, 1, 0));
    }

    private static void preview() {
        refuses("15 without a set", EMPTY, BOUNDS, x -> x.preview(0, 0, 1));
        refusesEach("15 reader", outside(0, 5), SOME, BOUNDS, bad -> x -> x.preview(bad, 0, 1));
        refusesEach("15 set", outside(0, 3), SOME, BOUNDS, bad -> x -> x.preview(0, bad, 1));
        refusesEach("15 fields of 3", new int[] {MIN, -1, 0, 8, 9, 12, MAX}, SOME, ARGUMENT,
                bad -> x -> x.preview(2, 0, bad));
        refusesEach("15 three fields and more", new int[] {7, 11, 13, 14, 21, 31, 56, 63}, FULL, ARGUMENT,
                bad -> x -> x.preview(2, 6, bad));
        answers("15 one field, the first", FULL, 1, x -> x.preview(2, 6, 1));
        answers("15 one field, the last", FULL, 32, x -> x.preview(2, 6, 32));
        answers("15 two fields", FULL, 33, x -> x.preview(2, 6, 33));
        refuses("15 bounds and fields", SOME, BOUNDS, x -> x.preview(6, 2, 7));
        refuses("15 bounds and fields", SOME, BOUNDS, x -> x.preview(0, 4, 0));
        refuses("15 fields, and no version", SOME, ARGUMENT, x -> x.preview(0, 2, 7));
        refuses("15 bounds, and no version", SOME, BOUNDS, x -> x.preview(-1, 2, 1));
        refuses("15 fields, and 3 forbids it", SOME, ARGUMENT, x -> x.preview(2, 0, 7));
    }

    private static void previewStates() {
        refuses("15 no version", SOME, STATE, x -> x.preview(0, 2, 1));
        refuses("15 no version, though covered", SOME, STATE, x -> x.preview(0, 3, 1));
        List<int[]> two = Desks.then(SOME, Desks.call(Calls.PREVIEW, 2, 0, 3));
        refuses("15 more than half of 3", two, STATE, x -> x.preview(2, 0, 4));
        refuses("15 more than half of 3", two, STATE, x -> x.preview(2, 0, 5));
        answers("15 half of 3, rounded up, once more", two, 3, x -> x.preview(2, 0, 2));
        answers("15 half of 3, rounded up", SOME, 6, x -> x.preview(2, 0, 6));
        refuses("15 with what is covered all", SOME, STATE, x -> x.preview(5, 0, 6));
        answers("15 with what is covered not all", SOME, 2, x -> x.preview(5, 0, 2));
        answers("15 only what is covered", SOME, 1, x -> x.preview(5, 0, 1));
        answers("15 all covered", SOME, 3, x -> x.preview(0, 0, 2));
        refuses("15 all covered, more than half", Desks.then(SOME, Desks.call(Calls.PREVIEW, 0, 0, 2)), STATE,
                x -> x.preview(0, 0, 4));
    }

    private static void ofRead() {
        refusesEach("16 without one", new int[] {MIN, -1, 0, MAX}, EMPTY, BOUNDS, bad -> x -> x.ofRead(bad, 0));
        refusesEach("16 read", outside(0, 2), SOME, BOUNDS, bad -> x -> x.ofRead(bad, 0));
        refusesEach("16 read", outside(0, 39), FULL, BOUNDS, bad -> x -> x.ofRead(bad, 11));
        refusesEach("16 what", outside(0, 11), SOME, ARGUMENT, bad -> x -> x.ofRead(2, bad));
        refuses("16 read and what", SOME, BOUNDS, x -> x.ofRead(3, 12));
        answers("16 the first", FULL, 0, x -> x.ofRead(0, 0));
        answers("16 the last", FULL, 39 % 4, x -> x.ofRead(39, 11));
    }

    private static void ofReader() {
        refusesEach("17 reader", outside(0, 5), SOME, BOUNDS, bad -> x -> x.ofReader(bad, 0));
        refusesEach("17 reader", outside(0, 5), EMPTY, BOUNDS, bad -> x -> x.ofReader(bad, 6));
        refusesEach("17 what", outside(0, 6), SOME, ARGUMENT, bad -> x -> x.ofReader(0, bad));
        refuses("17 reader and what", SOME, BOUNDS, x -> x.ofReader(6, 7));
        answers("17 the first", SOME, 3500, x -> x.ofReader(0, 0));
        answers("17 the last", SOME, 1, x -> x.ofReader(5, 6));
    }

    private static void bill() {
        refusesEach("18 reader", outside(0, 5), SOME, BOUNDS, bad -> x -> x.bill(bad));
        refusesEach("18 reader", outside(0, 5), FULL, BOUNDS, bad -> x -> x.bill(bad));
        answers("18 the first", SOME, 300 + 100 + 150 + 50 + 50, x -> x.bill(0));
        answers("18 the last", SOME, 0, x -> x.bill(5));
    }

    private static void pass() {
        refusesEach("19 days", outside(1, 30), EMPTY, ARGUMENT, bad -> x -> x.pass(bad));
        refusesEach("19 days, on the last DAY", outside(1, 30), LAST_DAY, ARGUMENT, bad -> x -> x.pass(bad));
        answers("19 one", EMPTY, 1, x -> x.pass(1));
        answers("19 thirty", EMPTY, 30, x -> x.pass(30));
        answers("19 to 359", FULL, 359, x -> x.pass(9));
        refusesEach("19 above 359", new int[] {10, 11, 30}, FULL, STATE, bad -> x -> x.pass(bad));
        refusesEach("19 on the last DAY", new int[] {1, 2, 30}, LAST_DAY, STATE, bad -> x -> x.pass(bad));
    }

    private static void many() {
        refusesEach("20 what", outside(0, 8), EMPTY, ARGUMENT, bad -> x -> x.many(bad));
        refusesEach("20 what", outside(0, 8), FULL, ARGUMENT, bad -> x -> x.many(bad));
        int[] most = {8, 48, 20, 16, 40};
        for (int what = 0; what < most.length; what++) {
            int asked = what;
            answers("20 what " + what, FULL, most[what], x -> x.many(asked));
        }
        answers("20 what 8", FULL, 350, x -> x.many(8));
    }

    private static void quote() {
        refuses("22 without a set", EMPTY, BOUNDS, x -> x.quote(0, 0, 1, 1));
        refusesEach("22 reader", outside(0, 5), SOME, BOUNDS, bad -> x -> x.quote(bad, 0, 1, 1));
        refusesEach("22 set", outside(0, 3), SOME, BOUNDS, bad -> x -> x.quote(0, bad, 1, 1));
        refusesEach("22 fields of 3", new int[] {MIN, -1, 0, 8, 9, MAX}, SOME, ARGUMENT,
                bad -> x -> x.quote(0, 0, bad, 1));
        refusesEach("22 fields of 6", new int[] {MIN, -1, 0, 64, 65, MAX}, FULL, ARGUMENT,
                bad -> x -> x.quote(0, 7, bad, 1));
        refusesEach("22 rows", outside(1, 9999), SOME, ARGUMENT, bad -> x -> x.quote(0, 0, 1, bad));
        answers("22 rows 1", SOME, 0, x -> x.quote(0, 0, 7, 1));
        answers("22 rows 9999", SOME, 2999 + 999 + 999, x -> x.quote(0, 0, 7, 9999));
        refuses("22 bounds, fields and rows", SOME, BOUNDS, x -> x.quote(6, 0, 0, 0));
        refuses("22 bounds, fields and rows", SOME, BOUNDS, x -> x.quote(0, 4, 0, 10000));
    }

    private static void creditBy() {
        refuses("23 without a set", EMPTY, BOUNDS, x -> x.creditBy(0, 0, 0, 1));
        refusesEach("23 set", outside(0, 3), SOME, BOUNDS, bad -> x -> x.creditBy(bad, 0, 0, 99));
        refusesEach("23 version", outside(0, 1), SOME, BOUNDS, bad -> x -> x.creditBy(0, bad, 0, 99));
        refusesEach("23 version of a set without one", outside(0, -1), SOME, BOUNDS,
                bad -> x -> x.creditBy(2, bad, 0, 99));
        refusesEach("23 field", outside(0, 2), SOME, BOUNDS, bad -> x -> x.creditBy(0, 1, bad, 99));
        refusesEach("23 harm", outside(1, 100), SOME, ARGUMENT, bad -> x -> x.creditBy(0, 1, 1, bad));
        answers("23 harm 1", SOME, 3 + 1, x -> x.creditBy(0, 1, 0, 1));
        answers("23 harm 100", SOME, 300 + 150, x -> x.creditBy(0, 1, 0, 100));
        refuses("23 bounds and harm", SOME, BOUNDS, x -> x.creditBy(0, 2, 0, 0));
    }

    private static void previews() {
        refuses("24 without a set", EMPTY, BOUNDS, x -> x.previews(0, 0));
        refusesEach("24 reader", outside(0, 5), SOME, BOUNDS, bad -> x -> x.previews(bad, 0));
        refusesEach("24 set", outside(0, 3), SOME, BOUNDS, bad -> x -> x.previews(0, bad));
        answers("24 no version", SOME, 0, x -> x.previews(0, 2));
        answers("24 the last reader", SOME, 3 + 2, x -> x.previews(5, 0));
    }

    private static void neededBy() {
        refusesEach("25 without one", new int[] {MIN, -1, 0, MAX}, EMPTY, BOUNDS, bad -> x -> x.neededBy(bad));
        refusesEach("25 contract", outside(0, 3), SOME, BOUNDS, bad -> x -> x.neededBy(bad));
        refusesEach("25 contract", outside(0, 15), FULL, BOUNDS, bad -> x -> x.neededBy(bad));
        answers("25 the first", SOME, 2, x -> x.neededBy(0));
        answers("25 the last", FULL, 2, x -> x.neededBy(15));
    }
}
