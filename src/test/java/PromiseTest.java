/** For each promise of the document: ordinary inputs, the edges that it names, and wrong inputs. */
public final class PromiseTest {
    private static final int MIN = Integer.MIN_VALUE;
    private static final int MAX = Integer.MAX_VALUE;
    private static final Checks checks = new Checks();

    public static void main(String[] args) {
        newObject();
        set();
        terms();
        source();
        version();
        missing();
        report();
        harm();
        harmKeepsWhatItWasMadeOf();
        fullDesk();
        readsOfTwoSets();
        ofSet();
        isMadeOf();
        contract();
        end();
        covered();
        read();
        readTiers();
        preview();
        previewOfWhatIsCovered();
        ofRead();
        ofReader();
        bill();
        pass();
        many();
        meanWorth();
        quote();
        creditBy();
        previews();
        neededBy();
        digest();
        if (!checks.end()) {
            System.exit(1);
        }
    }

    /** A desk with one SET of so many FIELDS, one VERSION of so many ROWS, all COVERED for READER 0. */
    private static DatamarketDesk openDesk(int fields, int rows) {
        DatamarketDesk x = new DatamarketDesk();
        x.set(fields);
        x.version(0, rows);
        x.contract(0, 0, (1 << fields) - 1, 15, 0, 359);
        return x;
    }

    /** SETS 0 to 2 of 2 FIELDS, FIELD 0 of each made of FIELD 0 of the one before, with SHARES 50. */
    private static DatamarketDesk chain() {
        DatamarketDesk x = new DatamarketDesk();
        for (int set = 0; set < 3; set++) {
            x.set(2);
        }
        x.source(1, 0, 0, 0, 50);
        x.source(2, 0, 1, 0, 50);
        for (int set = 0; set < 3; set++) {
            x.version(set, 1000);
        }
        return x;
    }

    private static void newObject() {
        DatamarketDesk x = new DatamarketDesk();
        for (int what = 0; what <= 8; what++) {
            checks.due("1 many " + what, 0, x.many(what));
        }
        for (int reader = 0; reader < 6; reader++) {
            for (int what = 0; what <= 6; what++) {
                checks.due("1 ofReader", 0, x.ofReader(reader, what));
            }
        }
        checks.due("1 meanWorth", 0.0, x.meanWorth());
        checks.outOfBounds("1 ofSet", x, () -> x.ofSet(0, 0));
    }

    private static void set() {
        DatamarketDesk x = new DatamarketDesk();
        for (int bad : new int[] {MIN, -1, 0, 7, MAX}) {
            checks.badArgument("2 set " + bad, x, () -> x.set(bad));
        }
        for (int set = 0; set < 8; set++) {
            checks.due("2 set", set, x.set(set % 6 + 1));
            checks.due("2 its fields", set % 6 + 1, x.ofSet(set, 0));
        }
        checks.badState("2 the ninth", x, () -> x.set(1));
        checks.badArgument("2 the ninth, bad", x, () -> x.set(0));
        checks.due("2 price at first", 10, x.terms(7, 1, 11, 1000));
    }

    private static void terms() {
        DatamarketDesk x = new DatamarketDesk();
        x.set(1);
        x.set(6);
        checks.due("3 at first", 10, x.terms(1, 5, 99, 1000));
        checks.due("3 then", 99, x.terms(1, 5, 1, 0));
        checks.due("3 then", 1, x.terms(1, 5, 2, 0));
        checks.due("3 another field", 10, x.terms(1, 4, 3, 3));
        checks.due("3 another set", 10, x.terms(0, 0, 3, 3));
        for (int bad : new int[] {MIN, -1, 2, 8, MAX}) {
            checks.outOfBounds("3 set " + bad, x, () -> x.terms(bad, 0, 0, -1));
        }
        for (int bad : new int[] {MIN, -1, 6, MAX}) {
            checks.outOfBounds("3 field " + bad, x, () -> x.terms(1, bad, 0, -1));
        }
        checks.outOfBounds("3 field 1 of set 0", x, () -> x.terms(0, 1, 1, 1));
        for (int bad : new int[] {MIN, -1, 0, 100, MAX}) {
            checks.badArgument("3 price " + bad, x, () -> x.terms(1, 5, bad, 0));
        }
        for (int bad : new int[] {MIN, -1, 1001, MAX}) {
            checks.badArgument("3 rule " + bad, x, () -> x.terms(1, 5, 50, bad));
        }
        checks.due("3 the price stood", 2, x.terms(1, 5, 2, 0));
    }

    private static void source() {
        DatamarketDesk x = new DatamarketDesk();
        x.set(6);
        x.set(6);
        x.set(2);
        checks.due("4 first", 1, x.source(1, 0, 0, 0, 1));
        checks.due("4 second", 2, x.source(1, 0, 0, 5, 100));
        checks.due("4 again", 2, x.source(1, 0, 0, 0, 7));
        checks.due("4 another field", 1, x.source(1, 1, 0, 0, 7));
        checks.due("4 many", 3, x.many(2));
        for (int bad : new int[] {MIN, -1, 3, MAX}) {
            checks.outOfBounds("4 set " + bad, x, () -> x.source(bad, 0, 0, 0, 0));
            checks.outOfBounds("4 from " + bad, x, () -> x.source(1, 0, bad, 0, 0));
        }
        for (int bad : new int[] {MIN, -1, 6, MAX}) {
            checks.outOfBounds("4 field " + bad, x, () -> x.source(1, bad, 0, 0, 0));
            checks.outOfBounds("4 source " + bad, x, () -> x.source(1, 0, 0, bad, 0));
        }
        checks.outOfBounds("4 field of from", x, () -> x.source(1, 0, 2, 2, 1));
        checks.badArgument("4 of itself", x, () -> x.source(1, 0, 1, 1, 1));
        checks.badArgument("4 of a greater one", x, () -> x.source(1, 0, 2, 1, 1));
        for (int bad : new int[] {MIN, -1, 0, 101, MAX}) {
            checks.badArgument("4 share " + bad, x, () -> x.source(1, 0, 0, 0, bad));
        }
        for (int made = 3; made < 20; made++) {
            x.source(2, made % 2, made % 4 / 2, made / 4, 50);
        }
        checks.due("4 twenty", 20, x.many(2));
        checks.badState("4 one more", x, () -> x.source(1, 5, 0, 5, 1));
        checks.badArgument("4 one more, bad", x, () -> x.source(1, 5, 0, 5, 0));
        checks.due("4 an old one yet", 2, x.source(1, 0, 0, 5, 9));
        checks.due("4 twenty still", 20, x.many(2));
    }

    private static void version() {
        DatamarketDesk x = new DatamarketDesk();
        x.set(1);
        x.set(1);
        for (int bad : new int[] {MIN, -1, 2, MAX}) {
            checks.outOfBounds("5 set " + bad, x, () -> x.version(bad, 0));
        }
        for (int bad : new int[] {MIN, -1, 0, 10000, MAX}) {
            checks.badArgument("5 rows " + bad, x, () -> x.version(0, bad));
        }
        for (int version = 0; version < 6; version++) {
            checks.due("5 version", version, x.version(0, version == 5 ? 9999 : version + 1));
        }
        checks.due("5 latest rows", 9999, x.ofSet(0, 2));
        checks.badState("5 the seventh", x, () -> x.version(0, 1));
        checks.badArgument("5 the seventh, bad", x, () -> x.version(0, 0));
        checks.due("5 the other set", 0, x.version(1, 5));
        checks.due("5 all", 7, x.many(1));
    }

    private static void missing() {
        DatamarketDesk x = new DatamarketDesk();
        x.set(6);
        checks.badState("6 without a version", x, () -> x.missing(0, 0, 5));
        checks.badArgument("6 without a version, bad", x, () -> x.missing(0, 0, -1));
        x.version(0, 10);
        for (int bad : new int[] {MIN, -1, 1, MAX}) {
            checks.outOfBounds("6 set " + bad, x, () -> x.missing(bad, 0, -1));
        }
        for (int bad : new int[] {MIN, -1, 6, MAX}) {
            checks.outOfBounds("6 field " + bad, x, () -> x.missing(0, bad, -1));
        }
        for (int bad : new int[] {MIN, -1, 1001, MAX}) {
            checks.badArgument("6 missing " + bad, x, () -> x.missing(0, 0, bad));
        }
        x.terms(0, 1, 10, 0);
        x.terms(0, 2, 10, 100);
        x.terms(0, 3, 10, 100);
        x.terms(0, 4, 10, 100);
        checks.due("6 rule 1000", 0, x.missing(0, 0, 1000));
        checks.due("6 rule 0", 100, x.missing(0, 1, 1000));
        checks.due("6 as the rule lets", 0, x.missing(0, 2, 100));
        checks.due("6 little more", 0, x.missing(0, 3, 109));
        checks.due("6 ten more", 1, x.missing(0, 4, 110));
        checks.due("6 zero", 0, x.missing(0, 5, 0));
        for (int field = 0; field < 6; field++) {
            int told = field;
            checks.badState("6 told", x, () -> x.missing(0, told, 500));
        }
        x.terms(0, 1, 10, 1000);
        x.terms(0, 0, 10, 0);
        checks.due("6 the rule as it was", 100, x.harm(0, 0, 1));
        checks.due("6 the rule as it was", 0, x.harm(0, 0, 0));
        x.version(0, 10);
        checks.due("6 of a new version", 0, x.missing(0, 1, 1000));
        checks.due("6 of a new version", 50, x.missing(0, 0, 500));
        checks.due("6 the old one", 0, x.harm(0, 0, 0));
        x.version(0, 10);
        x.report(0, 2, 4, 60);
        checks.due("6 the greater one", 60, x.missing(0, 4, 300));
    }

    private static void report() {
        DatamarketDesk x = openDesk(2, 1000);
        for (int bad : new int[] {MIN, -1, 1, MAX}) {
            checks.outOfBounds("7 set " + bad, x, () -> x.report(bad, 0, 0, 0));
            checks.outOfBounds("7 version " + bad, x, () -> x.report(0, bad, 0, 0));
        }
        for (int bad : new int[] {MIN, -1, 2, MAX}) {
            checks.outOfBounds("7 field " + bad, x, () -> x.report(0, 0, bad, 0));
        }
        for (int bad : new int[] {MIN, -1, 0, 101, MAX}) {
            checks.badArgument("7 harm " + bad, x, () -> x.report(0, 0, 0, bad));
        }
        checks.due("7 without reads", 0, x.report(0, 0, 0, 1));
        x.read(0, 0, 3, 1000, 0);
        x.read(0, 0, 2, 100, 0);
        checks.due("7 one read", 49, x.report(0, 0, 0, 50));
        checks.due("7 less", 0, x.report(0, 0, 0, 49));
        checks.due("7 two reads", 110, x.report(0, 0, 1, 100));
        x.bill(0);
        checks.due("7 billed ones too", 50, x.report(0, 0, 0, 100));

        DatamarketDesk y = chain();
        y.contract(3, 2, 3, 1, 0, 0);
        y.read(3, 2, 3, 1000, 0);
        checks.due("7 over two sets", 25, y.report(0, 0, 0, 100));
        checks.due("7 hidden by a greater one", 0, y.report(1, 0, 0, 50));
        checks.due("7 greater in the middle", 10, y.report(1, 0, 0, 71));
    }

    private static void harm() {
        DatamarketDesk x = chain();
        for (int bad : new int[] {MIN, -1, 3, MAX}) {
            checks.outOfBounds("8 set " + bad, x, () -> x.harm(bad, 0, 0));
        }
        for (int bad : new int[] {MIN, -1, 1, MAX}) {
            checks.outOfBounds("8 version " + bad, x, () -> x.harm(0, bad, 0));
        }
        for (int bad : new int[] {MIN, -1, 2, MAX}) {
            checks.outOfBounds("8 field " + bad, x, () -> x.harm(0, 0, bad));
        }
        checks.due("8 at first", 0, x.harm(0, 0, 0));
        x.report(0, 0, 0, 75);
        checks.due("8 reported", 75, x.harm(0, 0, 0));
        checks.due("8 of its source", 37, x.harm(1, 0, 0));
        checks.due("8 cut at each step", 18, x.harm(2, 0, 0));
        checks.due("8 another field", 0, x.harm(1, 0, 1));
        x.report(1, 0, 0, 38);
        checks.due("8 the greatest", 38, x.harm(1, 0, 0));
        checks.due("8 not back", 75, x.harm(0, 0, 0));
        checks.due("8 on", 19, x.harm(2, 0, 0));
    }

    private static void harmKeepsWhatItWasMadeOf() {
        DatamarketDesk x = new DatamarketDesk();
        x.set(1);
        x.set(1);
        x.source(1, 0, 0, 0, 80);
        x.version(1, 10);
        x.version(0, 10);
        x.version(1, 10);
        x.source(1, 0, 0, 0, 10);
        x.version(0, 10);
        x.version(1, 10);
        x.report(0, 0, 0, 100);
        checks.due("8 without a source's version", 0, x.harm(1, 0, 0));
        checks.due("8 the share as it was", 80, x.harm(1, 1, 0));
        checks.due("8 the latest as it was", 0, x.harm(1, 2, 0));
        x.report(0, 1, 0, 100);
        checks.due("8 the version as it was", 80, x.harm(1, 1, 0));
        checks.due("8 the later one", 10, x.harm(1, 2, 0));
        x.version(1, 10);
        checks.due("8 of a harmed one", 10, x.harm(1, 3, 0));

        DatamarketDesk y = new DatamarketDesk();
        y.set(6);
        y.set(1);
        y.version(0, 1);
        y.version(1, 1);
        y.source(1, 0, 0, 0, 100);
        y.report(0, 0, 0, 100);
        checks.due("8 a source told later", 0, y.harm(1, 0, 0));
        y.source(1, 0, 0, 0, 99);
        y.version(1, 1);
        checks.due("8 share 99", 99, y.harm(1, 1, 0));
    }

    /** As many SETS, FIELDS, VERSIONS and SOURCES as there may be. */
    private static void fullDesk() {
        DatamarketDesk x = new DatamarketDesk();
        for (int set = 0; set < 8; set++) {
            x.set(6);
        }
        for (int made = 0; made < 20; made++) {
            x.source(7, made % 6, made / 6, made % 6, 90);
        }
        for (int round = 0; round < 6; round++) {
            for (int set = 0; set < 8; set++) {
                checks.due("5 version", round, x.version(set, 1));
            }
        }
        for (int round = 0; round < 6; round++) {
            checks.due("10 the last source", true, x.isMadeOf(7, round, 1, 3, round, 1));
            checks.due("10 the last source", false, x.isMadeOf(7, round, 1, 3, (round + 1) % 6, 1));
            x.report(3, round, 1, 10 * (round + 1));
            checks.due("8 the last source", 9 * (round + 1), x.harm(7, round, 1));
        }
        for (int reader = 0; reader < 6; reader++) {
            for (int set = 0; set < 8; set++) {
                int field = 1 << (reader + set) % 6;
                checks.due("15 each reader of each set", field, x.preview(reader, set, field));
            }
        }
        for (int reader = 0; reader < 6; reader++) {
            for (int set = 0; set < 8; set++) {
                int field = 1 << (reader + set) % 6;
                checks.due("15 each reader of each set", field, x.preview(reader, set, field));
            }
        }
    }

    private static void readsOfTwoSets() {
        DatamarketDesk x = openDesk(1, 1000);
        x.set(1);
        x.version(1, 1000);
        x.contract(0, 1, 1, 1, 0, 359);
        x.contract(1, 1, 1, 1, 0, 359);
        x.read(0, 1, 1, 500, 0);
        x.read(0, 0, 1, 200, 0);
        x.read(1, 1, 1, 100, 0);
        x.report(1, 0, 0, 20);
        dueOfReader("17 two sets", x, 0, 700, 2, 70, 10, 0, 60, 2);
        checks.due("21 two readers, two sets", 68.0 / 3, x.meanWorth());
        checks.due("18 two sets", 60, x.bill(0));
        checks.due("18 two sets", 0, x.bill(0));
        checks.due("16 billed", 40, x.ofRead(0, 10));
        checks.due("16 billed", 20, x.ofRead(1, 10));
        checks.due("16 not billed", 0, x.ofRead(2, 10));
    }

    private static void ofSet() {
        DatamarketDesk x = new DatamarketDesk();
        x.set(3);
        x.set(1);
        for (int bad : new int[] {MIN, -1, 2, MAX}) {
            checks.outOfBounds("9 set " + bad, x, () -> x.ofSet(bad, -1));
        }
        for (int bad : new int[] {MIN, -1, 7, MAX}) {
            checks.badArgument("9 what " + bad, x, () -> x.ofSet(0, bad));
        }
        dueOfSet("9 new", x, 0, 3, 0, 0, 0, 0, 0, 0);
        x.version(0, 500);
        x.version(1, 600);
        x.contract(2, 0, 7, 1, 0, 0);
        x.contract(4, 0, 7, 1, 0, 0);
        x.contract(4, 1, 1, 1, 0, 0);
        x.read(2, 0, 3, 500, 0);
        x.read(4, 1, 1, 600, 0);
        x.report(0, 0, 1, 10);
        dueOfSet("9 first version", x, 0, 3, 1, 500, 1, 1, 100, 5);
        x.version(0, 400);
        dueOfSet("9 second version", x, 0, 3, 2, 400, 0, 1, 100, 5);
        x.read(4, 0, 7, 400, 0);
        x.report(0, 1, 0, 100);
        x.report(0, 1, 2, 1);
        dueOfSet("9 both", x, 0, 3, 2, 400, 2, 2, 220, 45);
        dueOfSet("9 the other set", x, 1, 1, 1, 600, 0, 1, 60, 0);
    }

    private static void dueOfSet(String what, DatamarketDesk x, int set, int... want) {
        for (int asked = 0; asked < want.length; asked++) {
            checks.due(what + ", " + asked, want[asked], x.ofSet(set, asked));
        }
    }

    private static void isMadeOf() {
        DatamarketDesk x = chain();
        checks.due("10 at once", true, x.isMadeOf(1, 0, 0, 0, 0, 0));
        checks.due("10 over another", true, x.isMadeOf(2, 0, 0, 0, 0, 0));
        checks.due("10 not back", false, x.isMadeOf(0, 0, 0, 1, 0, 0));
        checks.due("10 not of itself", false, x.isMadeOf(1, 0, 0, 1, 0, 0));
        checks.due("10 another field", false, x.isMadeOf(1, 0, 1, 0, 0, 0));
        checks.due("10 another source", false, x.isMadeOf(1, 0, 0, 0, 0, 1));
        x.version(0, 1);
        checks.due("10 a later version", false, x.isMadeOf(2, 0, 0, 0, 1, 0));
        x.version(2, 1);
        checks.due("10 over the old one", false, x.isMadeOf(2, 1, 0, 0, 1, 0));
        x.version(1, 1);
        checks.due("10 of the later one", true, x.isMadeOf(1, 1, 0, 0, 1, 0));
        x.version(2, 1);
        checks.due("10 over the later one", true, x.isMadeOf(2, 2, 0, 0, 1, 0));
        checks.due("10 no more of the first", false, x.isMadeOf(2, 2, 0, 0, 0, 0));
        for (int bad : new int[] {MIN, -1, 3, MAX}) {
            checks.outOfBounds("10 set", x, () -> x.isMadeOf(bad, 0, 0, 0, 0, 0) ? 1 : 0);
            checks.outOfBounds("10 version", x, () -> x.isMadeOf(2, bad, 0, 0, 0, 0) ? 1 : 0);
            checks.outOfBounds("10 field", x, () -> x.isMadeOf(2, 0, bad, 0, 0, 0) ? 1 : 0);
            checks.outOfBounds("10 from", x, () -> x.isMadeOf(2, 0, 0, bad, 0, 0) ? 1 : 0);
            checks.outOfBounds("10 other", x, () -> x.isMadeOf(2, 0, 0, 0, bad, 0) ? 1 : 0);
            checks.outOfBounds("10 source", x, () -> x.isMadeOf(2, 0, 0, 0, 0, bad) ? 1 : 0);
        }
        checks.outOfBounds("10 field 2", x, () -> x.isMadeOf(2, 0, 2, 0, 0, 0) ? 1 : 0);
        checks.outOfBounds("10 version 2 of set 1", x, () -> x.isMadeOf(2, 0, 0, 1, 2, 0) ? 1 : 0);
    }

    private static void contract() {
        DatamarketDesk x = new DatamarketDesk();
        x.set(2);
        x.pass(10);
        for (int bad : new int[] {MIN, -1, 6, MAX}) {
            checks.outOfBounds("11 reader " + bad, x, () -> x.contract(bad, 0, 0, 0, 0, 0));
            checks.outOfBounds("11 set " + bad, x, () -> x.contract(0, bad, 0, 0, 0, 0));
        }
        for (int bad : new int[] {MIN, -1, 0, 4, 5, 64, MAX}) {
            checks.badArgument("11 fields " + bad, x, () -> x.contract(0, 0, bad, 1, 10, 10));
        }
        for (int bad : new int[] {MIN, -1, 0, 16, MAX}) {
            checks.badArgument("11 purposes " + bad, x, () -> x.contract(0, 0, 1, bad, 10, 10));
        }
        checks.badArgument("11 from yesterday", x, () -> x.contract(0, 0, 1, 1, 9, 20));
        checks.badArgument("11 to below from", x, () -> x.contract(0, 0, 1, 1, 12, 11));
        checks.badArgument("11 to 360", x, () -> x.contract(0, 0, 1, 1, 10, 360));
        checks.badArgument("11 both beyond", x, () -> x.contract(0, 0, 1, 1, 360, 360));
        checks.badArgument("11 far", x, () -> x.contract(0, 0, 1, 1, MIN, MAX));
        for (int contract = 0; contract < 16; contract++) {
            checks.due("11 number", contract, x.contract(5, 0, 3, 15, 10, 359));
        }
        checks.badState("11 the 17th", x, () -> x.contract(0, 0, 1, 1, 10, 10));
        checks.badArgument("11 the 17th, bad", x, () -> x.contract(0, 0, 1, 1, 10, 9));
        x.end(0);
        checks.badState("11 an ended one counts", x, () -> x.contract(0, 0, 1, 1, 10, 10));
    }

    private static void end() {
        DatamarketDesk x = new DatamarketDesk();
        x.set(1);
        x.contract(0, 0, 1, 1, 0, 20);
        x.contract(0, 0, 1, 1, 15, 15);
        x.contract(0, 0, 1, 1, 0, 4);
        x.contract(0, 0, 1, 1, 10, 359);
        x.contract(0, 0, 1, 1, 0, 10);
        x.pass(10);
        for (int bad : new int[] {MIN, -1, 5, MAX}) {
            checks.outOfBounds("12 contract " + bad, x, () -> x.end(bad));
        }
        checks.due("12 begun", 10, x.end(0));
        checks.due("12 not begun", 1, x.end(1));
        checks.due("12 over", 0, x.end(2));
        checks.due("12 begun today", 349, x.end(3));
        checks.due("12 ends today", 0, x.end(4));
        checks.due("12 again", 0, x.end(0));
        checks.due("12 again, not begun", 0, x.end(1));
        checks.due("12 today is left", 1, x.covered(0, 0, 0, 10));
        checks.due("12 tomorrow is not", 0, x.covered(0, 0, 0, 11));
        checks.due("12 nor the one not begun", 0, x.covered(0, 0, 0, 15));
        x.pass(5);
        checks.due("12 nothing comes back", 0, x.end(2));
        checks.due("12 nothing comes back", 0, x.covered(0, 0, 0, 12));
        checks.due("12 nothing comes back", 0, x.covered(0, 0, 0, 15));

        DatamarketDesk y = new DatamarketDesk();
        y.set(1);
        y.contract(1, 0, 1, 1, 5, 9);
        checks.due("12 all days to come", 5, y.end(0));
        checks.due("12 none of them", 0, y.covered(1, 0, 0, 0));
    }

    private static void covered() {
        DatamarketDesk x = new DatamarketDesk();
        x.set(4);
        x.set(4);
        x.contract(0, 0, 3, 5, 5, 10);
        x.contract(0, 0, 6, 4, 10, 12);
        x.contract(0, 1, 8, 15, 0, 359);
        x.contract(1, 0, 8, 15, 0, 359);
        checks.due("13 before", 0, x.covered(0, 0, 0, 4));
        checks.due("13 first day", 3, x.covered(0, 0, 0, 5));
        checks.due("13 last day", 3, x.covered(0, 0, 0, 10));
        checks.due("13 behind", 0, x.covered(0, 0, 0, 11));
        checks.due("13 both", 7, x.covered(0, 0, 2, 10));
        checks.due("13 another purpose", 0, x.covered(0, 0, 1, 10));
        checks.due("13 another purpose", 0, x.covered(0, 0, 3, 10));
        checks.due("13 the other set", 8, x.covered(0, 1, 3, 0));
        checks.due("13 the other reader", 8, x.covered(1, 0, 1, 359));
        for (int bad : new int[] {MIN, -1, 6, MAX}) {
            checks.outOfBounds("13 reader " + bad, x, () -> x.covered(bad, 0, 0, -1));
            checks.outOfBounds("13 set " + bad, x, () -> x.covered(0, bad, 0, -1));
            checks.outOfBounds("13 purpose " + bad, x, () -> x.covered(0, 0, bad, -1));
        }
        checks.outOfBounds("13 purpose 4", x, () -> x.covered(0, 0, 4, 0));
        for (int bad : new int[] {MIN, -1, 360, MAX}) {
            checks.badArgument("13 day " + bad, x, () -> x.covered(0, 0, 0, bad));
        }
    }

    private static void read() {
        DatamarketDesk x = new DatamarketDesk();
        x.set(3);
        x.set(1);
        x.contract(0, 0, 3, 2, 0, 5);
        x.contract(0, 0, 4, 6, 0, 5);
        x.contract(0, 1, 1, 2, 0, 5);
        checks.badState("14 no version", x, () -> x.read(0, 0, 1, 1, 1));
        x.version(0, 200);
        x.version(0, 100);
        for (int bad : new int[] {MIN, -1, 6, MAX}) {
            checks.outOfBounds("14 reader " + bad, x, () -> x.read(bad, 0, 0, 0, 1));
            checks.outOfBounds("14 set " + bad, x, () -> x.read(0, bad, 0, 0, 1));
            checks.outOfBounds("14 purpose " + bad, x, () -> x.read(0, 0, 0, 0, bad));
        }
        checks.outOfBounds("14 purpose 4", x, () -> x.read(0, 0, 1, 1, 4));
        for (int bad : new int[] {MIN, -1, 0, 8, 9, MAX}) {
            checks.badArgument("14 fields " + bad, x, () -> x.read(0, 0, bad, 1, 1));
        }
        for (int bad : new int[] {MIN, -1, 0}) {
            checks.badArgument("14 rows " + bad, x, () -> x.read(0, 0, 1, bad, 1));
        }
        checks.badState("14 too many rows", x, () -> x.read(0, 0, 1, 101, 1));
        checks.badState("14 far too many rows", x, () -> x.read(0, 0, 1, MAX, 1));
        checks.badState("14 not for this purpose", x, () -> x.read(0, 0, 1, 1, 2));
        checks.badState("14 a field not for this purpose", x, () -> x.read(0, 0, 5, 1, 2));
        checks.badState("14 not for this reader", x, () -> x.read(1, 0, 1, 1, 1));
        x.terms(0, 0, 99, 0);
        x.terms(0, 1, 1, 0);
        checks.due("14 over two contracts", 99 + 1 + 10, x.read(0, 0, 7, 100, 1));
        checks.due("14 each field cut", 24, x.read(0, 0, 3, 25, 1));
        checks.due("14 each field cut", 98, x.read(0, 0, 3, 99, 1));
        x.pass(5);
        checks.due("14 on the last day", 10, x.read(0, 0, 4, 100, 2));
        x.pass(1);
        checks.badState("14 a day late", x, () -> x.read(0, 0, 4, 100, 2));
        x.contract(0, 0, 7, 1, 6, 6);
        for (int read = 4; read < 40; read++) {
            x.read(0, 0, 4, 1, 0);
        }
        checks.badState("14 the 41st", x, () -> x.read(0, 0, 4, 1, 0));
        checks.badArgument("14 the 41st, bad", x, () -> x.read(0, 0, 4, 0, 0));
        checks.due("14 forty", 40, x.many(4));
    }

    private static void readTiers() {
        DatamarketDesk x = openDesk(2, 9999);
        x.contract(1, 0, 3, 15, 0, 359);
        checks.due("14 first", 249, x.read(0, 0, 1, 2499, 0));
        checks.due("14 at 2499", 500, x.read(0, 0, 3, 2500, 0));
        checks.due("14 at 7499", 75, x.read(0, 0, 1, 1000, 0));
        checks.due("14 another reader", 100, x.read(1, 0, 1, 1000, 0));
        x.read(0, 0, 1, 1500, 0);
        x.read(0, 0, 1, 9999, 0);
        checks.due("14 units", 19998, x.ofReader(0, 0));
        checks.due("14 at 19998", 75, x.read(0, 0, 1, 1000, 0));
        checks.due("14 at 20998", 50, x.read(0, 0, 1, 1000, 0));
        x.pass(30);
        checks.due("14 a new period", 100, x.read(0, 0, 1, 1000, 0));

        DatamarketDesk y = openDesk(1, 9999);
        y.read(0, 0, 1, 4999, 0);
        y.read(0, 0, 1, 1, 0);
        checks.due("14 tier at 4999", 4, y.ofRead(1, 7));
        y.read(0, 0, 1, 9999, 0);
        checks.due("14 tier at 5000", 3, y.ofRead(2, 7));
        y.read(0, 0, 1, 5000, 0);
        y.read(0, 0, 1, 1, 0);
        checks.due("14 tier at 19999", 3, y.ofRead(4, 7));
        y.read(0, 0, 1, 1, 0);
        checks.due("14 tier at 20000", 2, y.ofRead(5, 7));
    }

    private static void preview() {
        DatamarketDesk x = new DatamarketDesk();
        x.set(5);
        checks.badState("15 no version", x, () -> x.preview(0, 0, 1));
        checks.badArgument("15 no version, bad", x, () -> x.preview(0, 0, 7));
        x.version(0, 1);
        for (int bad : new int[] {MIN, -1, 6, MAX}) {
            checks.outOfBounds("15 reader " + bad, x, () -> x.preview(bad, 0, 0));
            checks.outOfBounds("15 set " + bad, x, () -> x.preview(0, bad, 0));
        }
        for (int bad : new int[] {MIN, -1, 0, 32, 33, MAX, 7, 31}) {
            checks.badArgument("15 fields " + bad, x, () -> x.preview(0, 0, bad));
        }
        checks.due("15 two", 3, x.preview(0, 0, 3));
        checks.due("15 one of them", 3, x.preview(0, 0, 1));
        checks.badState("15 four", x, () -> x.preview(0, 0, 24));
        checks.due("15 three", 11, x.preview(0, 0, 10));
        checks.badState("15 four", x, () -> x.preview(0, 0, 4));
        checks.due("15 again", 11, x.preview(0, 0, 8));
        checks.due("15 another reader", 20, x.preview(5, 0, 20));
        x.version(0, 1);
        checks.badState("15 of a new version", x, () -> x.preview(0, 0, 4));
        x.set(1);
        x.set(2);
        x.version(1, 1);
        x.version(2, 1);
        checks.badState("15 all of a set of one", x, () -> x.preview(0, 1, 1));
        checks.badState("15 all of a set of two", x, () -> x.preview(0, 2, 3));
        checks.due("15 half of it", 2, x.preview(0, 2, 2));
        checks.badState("15 the other half", x, () -> x.preview(0, 2, 1));
    }

    private static void previewOfWhatIsCovered() {
        DatamarketDesk x = new DatamarketDesk();
        x.set(4);
        x.version(0, 1);
        x.contract(0, 0, 1, 1, 0, 0);
        x.contract(0, 0, 2, 8, 0, 0);
        x.contract(0, 0, 4, 4, 1, 1);
        x.contract(0, 0, 8, 4, 2, 2);
        x.contract(0, 0, 15, 4, 3, 3);
        x.contract(1, 0, 15, 4, 0, 359);
        checks.badState("15 the rest", x, () -> x.preview(0, 0, 12));
        checks.due("15 a part of the rest", 8, x.preview(0, 0, 8));
        checks.badState("15 the last of the rest", x, () -> x.preview(0, 0, 4));
        x.pass(1);
        checks.due("15 a day later", 9, x.preview(0, 0, 1));
        x.contract(0, 0, 2, 1, 2, 2);
        x.pass(1);
        checks.due("15 what was seen before", 9, x.preview(0, 0, 8));
        x.contract(0, 0, 4, 2, 2, 2);
        checks.badState("15 what was seen, with what is covered", x, () -> x.preview(0, 0, 8));
        x.pass(1);
        checks.due("15 all covered", 9, x.preview(0, 0, 1));
        checks.badState("15 half of it, though all covered", x, () -> x.preview(0, 0, 2));
        checks.due("15 free, though covered", 12, x.preview(1, 0, 12));
        DatamarketDesk y = openDesk(1, 1);
        checks.due("15 a covered set of one", 1, y.preview(0, 0, 1));
    }

    private static void ofRead() {
        DatamarketDesk x = new DatamarketDesk();
        x.set(1);
        x.set(3);
        x.version(1, 4000);
        x.version(1, 3000);
        x.contract(4, 1, 7, 8, 0, 359);
        x.terms(1, 2, 20, 0);
        x.pass(7);
        checks.outOfBounds("16 read 0", x, () -> x.ofRead(0, -1));
        x.read(4, 1, 6, 2500, 3);
        x.read(4, 1, 4, 1000, 3);
        x.terms(1, 2, 1, 0);
        x.pass(30);
        x.version(1, 1);
        x.report(1, 1, 2, 50);
        dueOfRead("16 first", x, 0, 4, 1, 1, 6, 2500, 7, 5000, 4, 750, 250, 0, 3);
        dueOfRead("16 second", x, 1, 4, 1, 1, 4, 1000, 7, 1000, 3, 150, 75, 0, 3);
        x.bill(4);
        checks.due("16 billed", 500, x.ofRead(0, 10));
        checks.due("16 billed", 75, x.ofRead(1, 10));
        x.report(1, 1, 2, 100);
        checks.due("16 credit now", 500, x.ofRead(0, 9));
        checks.due("16 billed then", 500, x.ofRead(0, 10));
        for (int bad : new int[] {MIN, -1, 2, MAX}) {
            checks.outOfBounds("16 read " + bad, x, () -> x.ofRead(bad, -1));
        }
        for (int bad : new int[] {MIN, -1, 12, MAX}) {
            checks.badArgument("16 what " + bad, x, () -> x.ofRead(0, bad));
        }
        x.report(1, 1, 1, 33);
        checks.due("16 each field's credit cut", 82 + 500, x.ofRead(0, 9));
    }

    private static void dueOfRead(String what, DatamarketDesk x, int read, int... want) {
        for (int asked = 0; asked < want.length; asked++) {
            checks.due(what + ", " + asked, want[asked], x.ofRead(read, asked));
        }
    }

    private static void ofReader() {
        DatamarketDesk x = openDesk(2, 1000);
        x.contract(0, 0, 1, 1, 31, 359);
        x.contract(1, 0, 3, 1, 0, 359);
        for (int bad : new int[] {MIN, -1, 6, MAX}) {
            checks.outOfBounds("17 reader " + bad, x, () -> x.ofReader(bad, -1));
        }
        for (int bad : new int[] {MIN, -1, 7, MAX}) {
            checks.badArgument("17 what " + bad, x, () -> x.ofReader(0, bad));
        }
        x.read(0, 0, 3, 1000, 0);
        x.read(1, 0, 1, 500, 0);
        dueOfReader("17 first", x, 0, 2000, 1, 200, 0, 0, 200, 1);
        x.pass(29);
        checks.due("17 the same period", 2000, x.ofReader(0, 0));
        x.pass(1);
        x.read(0, 0, 2, 100, 0);
        dueOfReader("17 a new period", x, 0, 100, 2, 210, 0, 0, 210, 1);
        x.bill(0);
        x.report(0, 0, 1, 50);
        dueOfReader("17 billed", x, 0, 100, 2, 210, 55, 210, -55, 1);
        x.pass(1);
        checks.due("17 contracts", 2, x.ofReader(0, 6));
        x.end(0);
        checks.due("17 contracts, one ended today", 2, x.ofReader(0, 6));
        x.pass(1);
        checks.due("17 contracts, one ended", 1, x.ofReader(0, 6));
        dueOfReader("17 the other", x, 1, 0, 1, 50, 0, 0, 50, 1);
        dueOfReader("17 a third", x, 5, 0, 0, 0, 0, 0, 0, 0);
    }

    private static void dueOfReader(String what, DatamarketDesk x, int reader, int... want) {
        for (int asked = 0; asked < want.length; asked++) {
            checks.due(what + ", " + asked, want[asked], x.ofReader(reader, asked));
        }
    }

    private static void bill() {
        DatamarketDesk x = openDesk(1, 1000);
        x.contract(1, 0, 1, 1, 0, 359);
        for (int bad : new int[] {MIN, -1, 6, MAX}) {
            checks.outOfBounds("18 reader " + bad, x, () -> x.bill(bad));
        }
        checks.due("18 without reads", 0, x.bill(0));
        x.read(0, 0, 1, 1000, 0);
        x.read(1, 0, 1, 500, 0);
        x.report(0, 0, 0, 10);
        checks.due("18 less its credit", 90, x.bill(0));
        checks.due("18 again", 0, x.bill(0));
        x.report(0, 0, 0, 30);
        x.read(0, 0, 1, 100, 0);
        checks.due("18 a new one, and some back", 7 - 20, x.bill(0));
        checks.due("18 the other", 35, x.bill(1));
        checks.due("18 a third", 0, x.bill(2));
        x.report(0, 0, 0, 100);
        checks.due("18 all back", -77, x.bill(0));
        checks.due("18 billed in all", 35, x.many(7));
    }

    private static void pass() {
        DatamarketDesk x = new DatamarketDesk();
        for (int bad : new int[] {MIN, -1, 0, 31, MAX}) {
            checks.badArgument("19 days " + bad, x, () -> x.pass(bad));
        }
        checks.due("19 one", 1, x.pass(1));
        for (int time = 1; time <= 11; time++) {
            checks.due("19 thirty", 1 + 30 * time, x.pass(30));
        }
        checks.badState("19 360", x, () -> x.pass(29));
        checks.due("19 359", 359, x.pass(28));
        checks.badState("19 on the last day", x, () -> x.pass(1));
        checks.badArgument("19 bad on the last day", x, () -> x.pass(31));
        checks.due("19 the day", 359, x.many(8));
    }

    private static void many() {
        DatamarketDesk x = chain();
        x.contract(0, 0, 3, 1, 0, 5);
        x.contract(2, 2, 3, 1, 0, 5);
        x.end(1);
        x.read(0, 0, 3, 1000, 0);
        x.read(2, 2, 1, 400, 0);
        x.version(0, 1);
        x.report(0, 0, 0, 100);
        x.bill(0);
        x.pass(3);
        int[] want = {3, 4, 2, 2, 2, 240, 110, 100, 3};
        for (int what = 0; what < want.length; what++) {
            checks.due("20 many " + what, want[what], x.many(what));
        }
        x.bill(2);
        checks.due("20 billed in all", 130, x.many(7));
        for (int bad : new int[] {MIN, -1, 9, MAX}) {
            checks.badArgument("20 what " + bad, x, () -> x.many(bad));
        }
    }

    private static void meanWorth() {
        DatamarketDesk x = openDesk(1, 1000);
        checks.due("21 without reads", 0.0, x.meanWorth());
        x.read(0, 0, 1, 1000, 0);
        checks.due("21 one", 100.0, x.meanWorth());
        x.read(0, 0, 1, 10, 0);
        checks.due("21 two", 101.0 / 2, x.meanWorth());
        x.read(0, 0, 1, 10, 0);
        checks.due("21 three", 102.0 / 3, x.meanWorth());
        x.report(0, 0, 0, 1);
        checks.due("21 less credit", 101.0 / 3, x.meanWorth());
        x.bill(0);
        checks.due("21 billed or not", 101.0 / 3, x.meanWorth());
    }

    private static void quote() {
        DatamarketDesk x = new DatamarketDesk();
        x.set(2);
        x.terms(0, 0, 99, 0);
        for (int bad : new int[] {MIN, -1, 6, MAX}) {
            checks.outOfBounds("22 reader " + bad, x, () -> x.quote(bad, 0, 0, 0));
            checks.outOfBounds("22 set " + bad, x, () -> x.quote(0, bad, 0, 0));
        }
        for (int bad : new int[] {MIN, -1, 0, 4, MAX}) {
            checks.badArgument("22 fields " + bad, x, () -> x.quote(0, 0, bad, 1));
        }
        for (int bad : new int[] {MIN, -1, 0, 10000, MAX}) {
            checks.badArgument("22 rows " + bad, x, () -> x.quote(0, 0, 1, bad));
        }
        checks.due("22 one row", 0, x.quote(0, 0, 1, 1));
        checks.due("22 without a version", 9899 + 999, x.quote(0, 0, 3, 9999));
        checks.due("22 each field cut", 98 + 9, x.quote(0, 0, 3, 99));
        x.version(0, 9999);
        x.contract(0, 0, 3, 1, 0, 359);
        x.read(0, 0, 1, 5000, 0);
        checks.due("22 tier 3", 749, x.quote(0, 0, 2, 9999));
        checks.due("22 another reader", 999, x.quote(1, 0, 2, 9999));
        x.read(0, 0, 3, 7500, 0);
        checks.due("22 tier 2", 499, x.quote(0, 0, 2, 9999));
        x.pass(30);
        checks.due("22 a new period", 999, x.quote(0, 0, 2, 9999));
        checks.due("22 no read is made", 2, x.many(4));
    }

    private static void creditBy() {
        DatamarketDesk x = chain();
        x.contract(0, 2, 3, 1, 0, 0);
        x.contract(1, 0, 3, 1, 0, 0);
        x.read(0, 2, 1, 1000, 0);
        x.read(1, 0, 3, 1000, 0);
        for (int bad : new int[] {MIN, -1, 3, MAX}) {
            checks.outOfBounds("23 set " + bad, x, () -> x.creditBy(bad, 0, 0, 0));
            checks.outOfBounds("23 version " + bad, x, () -> x.creditBy(0, bad, 0, 0));
            checks.outOfBounds("23 field " + bad, x, () -> x.creditBy(0, 0, bad, 0));
        }
        for (int bad : new int[] {MIN, -1, 0, 101, MAX}) {
            checks.badArgument("23 harm " + bad, x, () -> x.creditBy(0, 0, 0, bad));
        }
        long before = x.digest();
        checks.due("23 both", 125, x.creditBy(0, 0, 0, 100));
        checks.due("23 again", 125, x.creditBy(0, 0, 0, 100));
        checks.due("23 at least", 1, x.creditBy(0, 0, 0, 1));
        checks.due("23 nothing is changed", before, x.digest());
        checks.due("23 as report tells", 100 + 25, x.report(0, 0, 0, 100));
        checks.due("23 then", 0, x.creditBy(0, 0, 0, 100));
        checks.due("23 in the middle", 25, x.creditBy(1, 0, 0, 100));
    }

    private static void previews() {
        DatamarketDesk x = new DatamarketDesk();
        x.set(6);
        checks.due("24 no version", 0, x.previews(0, 0));
        x.version(0, 1);
        for (int bad : new int[] {MIN, -1, 6, MAX}) {
            checks.outOfBounds("24 reader " + bad, x, () -> x.previews(bad, 0));
            checks.outOfBounds("24 set " + bad, x, () -> x.previews(0, bad));
        }
        checks.due("24 all", 6 + 15, x.previews(0, 0));
        x.preview(0, 0, 1);
        checks.due("24 with one seen", 6 + 15, x.previews(0, 0));
        x.preview(0, 0, 2);
        checks.due("24 with two seen", 6 + 9, x.previews(0, 0));
        x.preview(0, 0, 4);
        checks.due("24 with three seen", 3 + 3, x.previews(0, 0));
        checks.due("24 another reader", 6 + 15, x.previews(3, 0));
        x.contract(0, 0, 24, 2, 0, 1);
        checks.due("24 some covered", 3 + 3, x.previews(0, 0));
        x.contract(0, 0, 32, 8, 1, 1);
        x.pass(1);
        checks.due("24 seen and covered all", 0, x.previews(0, 0));
        x.contract(0, 0, 7, 1, 1, 1);
        checks.due("24 covered all", 3 + 3, x.previews(0, 0));
        checks.due("24 nothing is changed", 7, x.preview(0, 0, 1));
        x.set(1);
        x.version(1, 1);
        checks.due("24 a set of one", 0, x.previews(0, 1));
        checks.due("24 a covered set of one", 1, openDesk(1, 1).previews(0, 0));
        checks.due("24 a covered set of two", 2, openDesk(2, 1).previews(0, 0));
    }

    private static void neededBy() {
        DatamarketDesk x = new DatamarketDesk();
        x.set(3);
        x.set(3);
        x.version(0, 10);
        x.version(1, 10);
        x.contract(0, 0, 7, 1, 0, 10);
        x.contract(0, 0, 3, 3, 0, 10);
        x.contract(0, 0, 4, 1, 5, 6);
        x.contract(1, 0, 7, 1, 0, 10);
        x.contract(0, 1, 7, 1, 0, 10);
        for (int bad : new int[] {MIN, -1, 5, MAX}) {
            checks.outOfBounds("25 contract " + bad, x, () -> x.neededBy(bad));
        }
        x.read(0, 0, 7, 1, 0);
        x.read(0, 0, 3, 1, 0);
        x.read(0, 0, 1, 1, 1);
        x.read(0, 1, 1, 1, 0);
        x.read(1, 0, 1, 1, 0);
        dueNeeded("25 at first", x, 1, 1, 0, 1, 1);
        x.pass(5);
        x.read(0, 0, 7, 1, 0);
        x.read(0, 0, 4, 1, 0);
        dueNeeded("25 two of them cover", x, 1, 1, 0, 1, 1);
        x.end(2);
        dueNeeded("25 ended today", x, 1, 1, 0, 1, 1);
        x.pass(1);
        x.read(0, 0, 4, 1, 0);
        dueNeeded("25 behind its end", x, 2, 1, 0, 1, 1);
        x.contract(0, 0, 7, 15, 6, 6);
        dueNeeded("25 another one today", x, 1, 1, 0, 1, 1, 0);

        DatamarketDesk y = new DatamarketDesk();
        y.set(3);
        y.version(0, 10);
        y.contract(0, 0, 3, 1, 0, 0);
        y.contract(0, 0, 6, 1, 0, 0);
        y.read(0, 0, 7, 1, 0);
        y.read(0, 0, 2, 1, 0);
        dueNeeded("25 both for one read", y, 1, 1);
    }

    private static void dueNeeded(String what, DatamarketDesk x, int... want) {
        for (int contract = 0; contract < want.length; contract++) {
            checks.due(what + ", " + contract, want[contract], x.neededBy(contract));
        }
    }

    private static void digest() {
        DatamarketDesk x = chain();
        x.contract(0, 2, 1, 1, 0, 40);
        x.contract(5, 0, 3, 3, 0, 0);
        x.read(0, 2, 1, 1000, 0);
        x.read(5, 0, 3, 999, 1);
        x.preview(1, 1, 2);
        x.report(0, 0, 0, 100);
        x.bill(5);
        x.pass(1);
        checks.due("26 digest", digestOf(x), x.digest());
        checks.due("26 again", digestOf(x), x.digest());
        checks.due("26 new", digestOf(new DatamarketDesk()), new DatamarketDesk().digest());
    }

    private static long digestOf(DatamarketDesk x) {
        long d = 58124;
        for (int what = 0; what <= 8; what++) {
            d = d * 31 + x.many(what);
        }
        for (int set = 0; set < x.many(0); set++) {
            for (int what = 0; what <= 6; what++) {
                d = d * 31 + x.ofSet(set, what);
            }
            for (int version = 0; version < x.ofSet(set, 1); version++) {
                for (int field = 0; field < x.ofSet(set, 0); field++) {
                    d = d * 31 + x.harm(set, version, field);
                }
            }
        }
        for (int reader = 0; reader <= 5; reader++) {
            for (int what = 0; what <= 6; what++) {
                d = d * 31 + x.ofReader(reader, what);
            }
            for (int set = 0; set < x.many(0); set++) {
                d = d * 31 + x.covered(reader, set, 0, x.many(8));
                d = d * 31 + x.previews(reader, set);
            }
        }
        for (int read = 0; read < x.many(4); read++) {
            for (int what = 0; what <= 11; what++) {
                d = d * 31 + x.ofRead(read, what);
            }
        }
        for (int contract = 0; contract < x.many(3); contract++) {
            d = d * 31 + x.neededBy(contract);
        }
        return d;
    }
}
