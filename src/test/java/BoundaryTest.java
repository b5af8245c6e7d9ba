import java.math.BigInteger;

/**
 * The sentences of "Terms", and what the promises say that is returned, one by one: the numbers just inside, on and
 * just outside each bound, what is full or empty, first or last, ended or not yet begun.
 */
public final class BoundaryTest {
    private static final Checks checks = new Checks();

    public static void main(String[] args) {
        divisionIsCut();
        fieldsAreToldAsSums();
        days();
        periods();
        setsAndFields();
        priceAndRuleAtFirst();
        versions();
        rowsOfEachSet();
        sourcesEachOnce();
        madeOfTheLatest();
        madeOfAsMuchAsCanBe();
        madeOfWhatHasAVersion();
        madeWithSharesAsTheyWere();
        harmReported();
        harmMissing();
        harmOfSources();
        harmOverAllSets();
        isMadeOf();
        coveredOnBothDays();
        coveredByOneContractForAllThat();
        endedContracts();
        endedAtTheEdges();
        readsOfTheLatest();
        readsOfFirstAndLast();
        fortyReads();
        tiers();
        tierCountsAllSets();
        chargeStays();
        creditAsItIsNow();
        previewsByHowManyFields();
        previewsAreFree();
        previewsAndWhatIsCovered();
        previewsOfEachReaderAndSet();
        bills();
        fieldsWithHarm();
        contractsForToday();
        meanWorth();
        quotes();
        creditBy();
        howManyPreviews();
        neededByReads();
        neededByItsDays();
        digests();
        lastOf512Calls();
        if (!checks.end()) {
            System.exit(1);
        }
    }

    /** A desk with one SET of so many FIELDS, one VERSION of 9999 ROWS, all COVERED for READER 0. */
    private static DatamarketDesk openDesk(int fields) {
        DatamarketDesk x = uncovered(fields);
        x.contract(0, 0, (1 << fields) - 1, 15, 0, 359);
        return x;
    }

    private static DatamarketDesk uncovered(int fields) {
        DatamarketDesk x = new DatamarketDesk();
        x.set(fields);
        x.version(0, 9999);
        return x;
    }

    /** SET 1 of one FIELD is made of SET 0 of one FIELD. */
    private static DatamarketDesk madeOfOne(int share) {
        DatamarketDesk x = new DatamarketDesk();
        x.set(1);
        x.set(1);
        x.source(1, 0, 0, 0, share);
        x.version(0, 9999);
        x.version(1, 9999);
        return x;
    }

    private static void passTo(DatamarketDesk x, int day) {
        while (x.many(8) < day) {
            x.pass(Math.min(30, day - x.many(8)));
        }
    }

    // ---- "All numbers are whole .. / is cut"

    private static void divisionIsCut() {
        int[][] harmShareDue = {{1, 99, 0}, {1, 100, 1}, {2, 50, 1}, {1, 50, 0}, {99, 99, 98}, {99, 1, 0}, {100, 1, 1},
            {100, 100, 100}, {3, 33, 0}, {3, 34, 1}};
        for (int[] row : harmShareDue) {
            DatamarketDesk x = madeOfOne(row[1]);
            x.report(0, 0, 0, row[0]);
            checks.due("harm " + row[0] + " * share " + row[1] + " / 100", row[2], x.harm(1, 0, 0));
        }
        int[][] rowsPriceDue = {{9, 10, 0}, {10, 10, 1}, {19, 10, 1}, {20, 10, 2}, {1, 99, 0}, {2, 99, 1}, {99, 1, 0},
            {100, 1, 1}, {199, 1, 1}, {9999, 1, 99}, {9999, 99, 9899}};
        for (int[] row : rowsPriceDue) {
            DatamarketDesk x = openDesk(1);
            x.terms(0, 0, row[1], 1000);
            checks.due("rows " + row[0] + " * price " + row[1], row[2], x.read(0, 0, 1, row[0], 0));
        }
        int[][] chargeHarmDue = {{1, 99, 0}, {1, 100, 1}, {99, 1, 0}, {100, 1, 1}, {101, 1, 1}, {199, 50, 99},
                {3, 34, 1}};
        for (int[] row : chargeHarmDue) {
            DatamarketDesk x = openDesk(1);
            x.read(0, 0, 1, row[0] * 10, 0);
            checks.due("charge " + row[0] + " * harm " + row[1] + " / 100", row[2], x.report(0, 0, 0, row[1]));
            checks.due("charge " + row[0] + " * harm " + row[1] + " / 100", row[2], x.ofRead(0, 9));
        }
    }

    // ---- "Sets of FIELDS are told as the sum of 2^f"

    private static void fieldsAreToldAsSums() {
        for (int fields = 1; fields <= 6; fields++) {
            int all = (1 << fields) - 1;
            int last = 1 << fields - 1;
            DatamarketDesk x = uncovered(fields);
            x.contract(0, 0, all, 1, 0, 0);
            x.contract(1, 0, last, 1, 0, 0);
            checks.due("all of " + fields, all, x.covered(0, 0, 0, 0));
            checks.due("the last of " + fields, last, x.covered(1, 0, 0, 0));
            x.read(0, 0, all, 1, 0);
            x.read(1, 0, last, 1, 0);
            checks.due("all read", all, x.ofRead(0, 3));
            checks.due("units of all", fields, x.ofRead(0, 6));
            checks.due("the last read", last, x.ofRead(1, 3));
            checks.due("units of one", 1, x.ofRead(1, 6));
            checks.due("the last previewed", last, x.preview(0, 0, last));
        }
    }

    // ---- "The DAY is 0 at first, and 359 at most; DAY / 30 is its PERIOD"

    private static void days() {
        DatamarketDesk x = new DatamarketDesk();
        checks.due("the DAY at first", 0, x.many(8));
        passTo(x, 358);
        checks.due("the last DAY but one", 358, x.many(8));
        checks.badState("two more", x, () -> x.pass(2));
        checks.due("the last DAY", 359, x.pass(1));
        checks.badState("one more", x, () -> x.pass(1));
        checks.due("the last DAY stays", 359, x.many(8));
    }

    private static void periods() {
        int[][] firstAndNext = {{29, 30}, {59, 60}, {329, 330}};
        for (int[] row : firstAndNext) {
            DatamarketDesk x = openDesk(1);
            passTo(x, row[0] - 29);
            x.read(0, 0, 1, 5000, 0);
            checks.due("units on the first DAY of a PERIOD", 5000, x.ofReader(0, 0));
            passTo(x, row[0]);
            checks.due("units on DAY " + row[0], 5000, x.ofReader(0, 0));
            x.read(0, 0, 1, 10, 0);
            checks.due("tier on DAY " + row[0], 3, x.ofRead(1, 7));
            passTo(x, row[1]);
            checks.due("units on DAY " + row[1], 0, x.ofReader(0, 0));
            checks.due("quote on DAY " + row[1], 1, x.quote(0, 0, 1, 10));
            x.read(0, 0, 1, 10, 0);
            checks.due("tier on DAY " + row[1], 4, x.ofRead(2, 7));
            checks.due("the READ before, its tier", 3, x.ofRead(1, 7));
            checks.due("its DAY", row[0], x.ofRead(1, 5));
        }
        DatamarketDesk y = openDesk(1);
        passTo(y, 330);
        y.read(0, 0, 1, 9999, 0);
        passTo(y, 359);
        checks.due("the last PERIOD goes to the last DAY", 9999, y.ofReader(0, 0));
        y.read(0, 0, 1, 9999, 0);
        y.read(0, 0, 1, 2, 0);
        checks.due("units of all of it", 20000, y.ofReader(0, 0));
        checks.due("tier", 3, y.ofRead(2, 7));
        y.read(0, 0, 1, 2, 0);
        checks.due("tier", 2, y.ofRead(3, 7));
    }

    // ---- "1 SETS: at most 8, numbered from 0, each with 1 to 6 FIELDS .."

    private static void setsAndFields() {
        DatamarketDesk x = new DatamarketDesk();
        for (int set = 0; set < 8; set++) {
            int fields = set < 6 ? set + 1 : set - 5;
            checks.outOfBounds("a SET that is yet to come", x, () -> x.ofSet(x.many(0), 0));
            checks.due("its number", set, x.set(fields));
            checks.due("how many SETS", set + 1, x.many(0));
            checks.due("how many FIELDS", fields, x.ofSet(set, 0));
            int last = set;
            checks.due("the first FIELD", 10, x.terms(last, 0, 10, 1000));
            checks.due("the last FIELD", 10, x.terms(last, fields - 1, 10, 1000));
            checks.outOfBounds("a FIELD more", x, () -> x.terms(last, fields, 10, 1000));
        }
        checks.badState("the ninth", x, () -> x.set(6));
        checks.outOfBounds("no SET 8", x, () -> x.ofSet(8, 0));
    }

    private static void priceAndRuleAtFirst() {
        DatamarketDesk x = new DatamarketDesk();
        for (int set = 0; set < 8; set++) {
            x.set(6);
            x.version(set, 1);
        }
        for (int set = 0; set < 8; set++) {
            for (int field = 0; field < 6; field++) {
                checks.due("rule 1000 at first", 0, x.missing(set, field, 1000));
                checks.due("price 10 at first", 10, x.terms(set, field, 50 + set, 1000));
                checks.due("price then", 50 + set, x.terms(set, field, 99, 1000));
            }
        }
    }

    private static void versions() {
        DatamarketDesk x = new DatamarketDesk();
        x.set(1);
        x.set(1);
        x.contract(0, 1, 1, 1, 0, 0);
        int[] rows = {9999, 1, 500, 2, 9998, 3};
        checks.due("ROWS without a VERSION", 0, x.ofSet(1, 2));
        for (int version = 0; version < 6; version++) {
            int next = version;
            checks.outOfBounds("a VERSION that is yet to come", x, () -> x.harm(1, next, 0));
            checks.due("its number", version, x.version(1, rows[version]));
            checks.due("how many VERSIONS", version + 1, x.ofSet(1, 1));
            checks.due("ROWS of the LATEST one", rows[version], x.ofSet(1, 2));
            checks.due("HARM of it", 0, x.harm(1, version, 0));
            checks.badState("a READ of more ROWS", x, () -> x.read(0, 1, 1, rows[next] + 1, 0));
            x.read(0, 1, 1, rows[version], 0);
            checks.due("the LATEST one is READ", version, x.ofRead(version, 2));
        }
        checks.badState("the seventh", x, () -> x.version(1, 1));
        checks.due("no VERSIONS of the other SET", 0, x.ofSet(0, 1));
        checks.due("VERSIONS of all", 6, x.many(1));
    }

    private static void rowsOfEachSet() {
        DatamarketDesk x = new DatamarketDesk();
        for (int set = 0; set < 8; set++) {
            x.set(1);
        }
        for (int version = 0; version < 6; version++) {
            for (int set = 0; set < 8; set++) {
                x.version(set, 1 + 1000 * version + set);
                for (int other = 0; other < 8; other++) {
                    int latest = other <= set ? version : version - 1;
                    int rows = latest < 0 ? 0 : 1 + 1000 * latest + other;
                    checks.due("ROWS of SET " + other, rows, x.ofSet(other, 2));
                }
            }
        }
    }

    // ---- "SOURCES: at most 20 in all .."

    private static void sourcesEachOnce() {
        DatamarketDesk x = new DatamarketDesk();
        for (int set = 0; set < 5; set++) {
            x.set(6);
        }
        for (int made = 0; made < 20; made++) {
            checks.due("how many SOURCES of one FIELD", made + 1, x.source(4, 5, made / 6, made % 6, 100));
            checks.due("each once", made + 1, x.source(4, 5, made / 6, made % 6, 1));
            checks.due("how many in all", made + 1, x.many(2));
        }
        checks.badState("a 21st of that FIELD", x, () -> x.source(4, 5, 3, 2, 100));
        checks.badState("a first of another FIELD", x, () -> x.source(4, 4, 0, 0, 100));
        checks.badState("a first of another SET", x, () -> x.source(3, 5, 0, 0, 100));
        checks.due("the first one's SHARE", 20, x.source(4, 5, 0, 0, 2));
        checks.due("the last one's SHARE", 20, x.source(4, 5, 3, 1, 3));
        for (int set = 0; set < 5; set++) {
            x.version(set, 1);
        }
        x.report(0, 0, 0, 100);
        checks.due("of the first", 2, x.harm(4, 0, 5));
        x.report(3, 0, 1, 100);
        checks.due("of the last", 3, x.harm(4, 0, 5));
        checks.due("20 at once", true, x.isMadeOf(4, 0, 5, 2, 0, 5));
        checks.due("not the 21st", false, x.isMadeOf(4, 0, 5, 3, 0, 2));
    }

    // ---- "As a VERSION comes, each of its FIELDS is made of its SOURCES .."

    private static void madeOfTheLatest() {
        DatamarketDesk x = new DatamarketDesk();
        x.set(1);
        x.set(1);
        x.source(1, 0, 0, 0, 100);
        for (int version = 0; version < 6; version++) {
            x.version(0, 1);
            x.version(1, 1);
        }
        for (int version = 0; version < 6; version++) {
            for (int other = 0; other < 6; other++) {
                checks.due("of the LATEST then", version == other, x.isMadeOf(1, version, 0, 0, other, 0));
            }
            x.report(0, version, 0, 10 + version);
            checks.due("its HARM", 10 + version, x.harm(1, version, 0));
        }
        DatamarketDesk y = madeOfOne(100);
        for (int version = 1; version < 6; version++) {
            y.version(1, 1);
        }
        y.report(0, 0, 0, 60);
        for (int version = 0; version < 6; version++) {
            checks.due("all of the same one", 60, y.harm(1, version, 0));
        }
        y.version(0, 1);
        y.report(0, 1, 0, 90);
        checks.due("a later one changes nothing", 60, y.harm(1, 5, 0));
    }

    /** All 20 SOURCES are of one SET with 6 VERSIONS, so no more can be made of anything. */
    private static void madeOfAsMuchAsCanBe() {
        DatamarketDesk x = new DatamarketDesk();
        for (int set = 0; set < 8; set++) {
            x.set(6);
        }
        for (int made = 0; made < 20; made++) {
            x.source(7, made % 6, made / 3, made % 3, 90);
        }
        for (int version = 0; version < 6; version++) {
            for (int set = 0; set < 8; set++) {
                x.version(set, 1);
            }
        }
        for (int version = 0; version < 6; version++) {
            for (int made = 0; made < 20; made += 19) {
                checks.due("first and last of them", true,
                        x.isMadeOf(7, version, made % 6, made / 3, version, made % 3));
                checks.due("no other", false, x.isMadeOf(7, version, made % 6, made / 3, (version + 1) % 6, made % 3));
            }
            x.report(6, version, 1, 100 - 10 * version);
            checks.due("HARM of the last", 90 - 9 * version, x.harm(7, version, 1));
            checks.due("FIELDS with HARM", version == 5 ? 1 : 0, x.ofSet(7, 3));
        }
    }

    private static void madeOfWhatHasAVersion() {
        DatamarketDesk x = new DatamarketDesk();
        for (int set = 0; set < 3; set++) {
            x.set(1);
        }
        x.source(2, 0, 0, 0, 100);
        x.source(2, 0, 1, 0, 100);
        x.version(1, 1);
        x.version(2, 1);
        x.version(0, 1);
        x.report(0, 0, 0, 70);
        checks.due("a SET without one is left out", 0, x.harm(2, 0, 0));
        checks.due("left out", false, x.isMadeOf(2, 0, 0, 0, 0, 0));
        checks.due("the other one is not", true, x.isMadeOf(2, 0, 0, 1, 0, 0));
        x.report(1, 0, 0, 20);
        checks.due("the other one's HARM", 20, x.harm(2, 0, 0));
        x.version(2, 1);
        checks.due("then it is there", 70, x.harm(2, 1, 0));
    }

    private static void madeWithSharesAsTheyWere() {
        DatamarketDesk x = madeOfOne(1);
        x.source(1, 0, 0, 0, 100);
        x.version(1, 1);
        x.source(1, 0, 0, 0, 50);
        x.report(0, 0, 0, 100);
        checks.due("the SHARE of the first", 1, x.harm(1, 0, 0));
        checks.due("the SHARE of the second", 100, x.harm(1, 1, 0));
        x.version(1, 1);
        checks.due("the SHARE of the third", 50, x.harm(1, 2, 0));

        DatamarketDesk y = new DatamarketDesk();
        y.set(1);
        y.set(1);
        y.version(0, 1);
        y.version(1, 1);
        y.source(1, 0, 0, 0, 100);
        y.report(0, 0, 0, 100);
        checks.due("a SOURCE that came behind it", 0, y.harm(1, 0, 0));
        checks.due("is not what it was made of", false, y.isMadeOf(1, 0, 0, 0, 0, 0));
    }

    // ---- "HARM of a FIELD of a VERSION, 0 to 100: the greatest of .."

    private static void harmReported() {
        DatamarketDesk x = uncovered(2);
        checks.due("0 at first", 0, x.harm(0, 0, 0));
        int[][] toldAndDue = {{1, 1}, {50, 50}, {49, 50}, {50, 50}, {51, 51}, {100, 100}, {1, 100}, {100, 100}};
        for (int[] row : toldAndDue) {
            x.report(0, 0, 0, row[0]);
            checks.due("the greatest of what was REPORTED", row[1], x.harm(0, 0, 0));
            checks.due("not of the other FIELD", 0, x.harm(0, 0, 1));
        }
        x.version(0, 1);
        checks.due("not of the next VERSION", 0, x.harm(0, 1, 0));
        x.report(0, 1, 1, 3);
        checks.due("nor of the one before", 0, x.harm(0, 0, 1));
    }

    private static void harmMissing() {
        int[][] missingRuleDue = {{0, 0, 0}, {1, 0, 0}, {9, 0, 0}, {10, 0, 1}, {19, 0, 1}, {20, 0, 2}, {999, 0, 99},
            {1000, 0, 100}, {1000, 1000, 0}, {1000, 999, 0}, {1000, 991, 0}, {1000, 990, 1}, {500, 500, 0},
            {499, 500, 0}, {509, 500, 0}, {510, 500, 1}, {0, 1000, 0}, {10, 1000, 0}, {1000, 1, 99}};
        for (int[] row : missingRuleDue) {
            DatamarketDesk x = uncovered(2);
            x.terms(0, 1, 10, row[1]);
            String what = "missing " + row[0] + ", rule " + row[1];
            checks.due(what, row[2], x.missing(0, 1, row[0]));
            checks.due(what, row[2], x.harm(0, 0, 1));
            checks.badState(what + ", told once", x, () -> x.missing(0, 1, 1000));
            x.terms(0, 1, 10, 1000 - row[1]);
            checks.due("the rule as it was", row[2], x.harm(0, 0, 1));
            x.report(0, 0, 1, row[2] + 1 > 100 ? 100 : row[2] + 1);
            checks.due("the greater one", Math.min(100, row[2] + 1), x.harm(0, 0, 1));
        }
        DatamarketDesk y = madeOfOne(50);
        y.terms(1, 0, 10, 0);
        y.report(0, 0, 0, 100);
        checks.due("its SOURCE is worse than what is MISSING", 50, y.missing(1, 0, 500));
        y.version(1, 1);
        checks.due("what is MISSING is worse", 51, y.missing(1, 0, 510));
        y.version(0, 1);
        y.terms(0, 0, 10, 0);
        y.version(1, 1);
        checks.due("of the LATEST VERSION alone", 100, y.missing(0, 0, 1000));
        checks.due("goes on to what was made of it", 50, y.harm(1, 2, 0));
        checks.due("not to what was not", 51, y.harm(1, 1, 0));
    }

    private static void harmOfSources() {
        DatamarketDesk x = new DatamarketDesk();
        x.set(3);
        x.set(2);
        x.source(1, 1, 0, 0, 50);
        x.source(1, 1, 0, 1, 30);
        x.source(1, 1, 0, 2, 100);
        x.version(0, 1);
        x.version(1, 1);
        x.report(0, 0, 0, 50);
        checks.due("of the first", 25, x.harm(1, 0, 1));
        x.report(0, 0, 1, 100);
        checks.due("the greatest of two", 30, x.harm(1, 0, 1));
        x.report(0, 0, 2, 29);
        checks.due("the greatest of three", 30, x.harm(1, 0, 1));
        x.report(0, 0, 2, 31);
        checks.due("the greatest of three", 31, x.harm(1, 0, 1));
        x.report(1, 0, 1, 30);
        checks.due("its own is less", 31, x.harm(1, 0, 1));
        x.report(1, 0, 1, 32);
        checks.due("its own is more", 32, x.harm(1, 0, 1));
        checks.due("not the other FIELD", 0, x.harm(1, 0, 0));
        checks.due("not back", 31, x.harm(0, 0, 2));
        x.report(0, 0, 0, 100);
        checks.due("as it is now", 50, x.harm(1, 0, 1));
    }

    /** FIELD 0 of each of 8 SETS is made of that of the one before. */
    private static DatamarketDesk chainOfEight(int share) {
        DatamarketDesk x = new DatamarketDesk();
        for (int set = 0; set < 8; set++) {
            x.set(1);
            if (set > 0) {
                x.source(set, 0, set - 1, 0, share);
            }
            x.version(set, 9999);
        }
        return x;
    }

    private static void harmOverAllSets() {
        int[] ofShare99 = {100, 99, 98, 97, 96, 95, 94, 93};
        int[] ofShare50 = {100, 50, 25, 12, 6, 3, 1, 0};
        DatamarketDesk x = chainOfEight(99);
        DatamarketDesk y = chainOfEight(50);
        DatamarketDesk z = chainOfEight(100);
        x.report(0, 0, 0, 100);
        y.report(0, 0, 0, 100);
        z.report(0, 0, 0, 1);
        for (int set = 0; set < 8; set++) {
            checks.due("with SHARES 99", ofShare99[set], x.harm(set, 0, 0));
            checks.due("with SHARES 50", ofShare50[set], y.harm(set, 0, 0));
            checks.due("with SHARES 100", 1, z.harm(set, 0, 0));
        }
        checks.due("FIELDS of the LATEST one with HARM", 1, y.ofSet(6, 3));
        checks.due("FIELDS of the LATEST one with HARM", 0, y.ofSet(7, 3));
        y.report(4, 0, 0, 100);
        checks.due("from the middle on", 12, y.harm(7, 0, 0));
        checks.due("not back from the middle", 12, y.harm(3, 0, 0));
    }

    private static void isMadeOf() {
        DatamarketDesk x = chainOfEight(100);
        for (int set = 0; set < 8; set++) {
            for (int from = 0; from < 8; from++) {
                checks.due("over all between", from < set, x.isMadeOf(set, 0, 0, from, 0, 0));
            }
        }
        x.version(7, 1);
        checks.due("another VERSION of the same SET", false, x.isMadeOf(7, 1, 0, 7, 0, 0));
        checks.due("another VERSION of the same SET", false, x.isMadeOf(7, 0, 0, 7, 1, 0));
        checks.due("no one of itself", false, x.isMadeOf(7, 1, 0, 7, 1, 0));

        DatamarketDesk y = new DatamarketDesk();
        for (int set = 0; set < 3; set++) {
            y.set(2);
        }
        y.source(1, 0, 0, 0, 1);
        y.source(2, 0, 1, 0, 1);
        y.source(2, 1, 0, 1, 1);
        for (int set = 0; set < 3; set++) {
            y.version(set, 1);
        }
        checks.due("HARM need not go so far", true, y.isMadeOf(2, 0, 0, 0, 0, 0));
        checks.due("another FIELD", false, y.isMadeOf(2, 0, 0, 0, 0, 1));
        checks.due("at once", true, y.isMadeOf(2, 0, 1, 0, 0, 1));
        checks.due("not over its neighbour", false, y.isMadeOf(2, 0, 1, 1, 0, 0));
    }

    // ---- "2 READERS are 0 to 5. CONTRACTS .."

    private static void coveredOnBothDays() {
        DatamarketDesk x = uncovered(2);
        x.contract(5, 0, 2, 8, 10, 12);
        x.contract(5, 0, 1, 8, 12, 12);
        int[] due = {0, 2, 2, 3, 0};
        for (int day = 9; day <= 13; day++) {
            checks.due("for DAY " + day, due[day - 9], x.covered(5, 0, 3, day));
        }
        checks.due("CONTRACTS for DAY 0", 0, x.ofReader(5, 6));
        passTo(x, 9);
        checks.badState("the DAY before", x, () -> x.read(5, 0, 2, 100, 3));
        for (int day = 10; day <= 12; day++) {
            passTo(x, day);
            checks.due("READ on DAY " + day, 10, x.read(5, 0, 2, 100, 3));
        }
        checks.due("CONTRACTS for the last DAY", 2, x.ofReader(5, 6));
        x.pass(1);
        checks.badState("the DAY behind", x, () -> x.read(5, 0, 2, 100, 3));
        checks.due("CONTRACTS behind", 0, x.ofReader(5, 6));
        checks.due("what was COVERED on an earlier DAY", 3, x.covered(5, 0, 3, 12));

        DatamarketDesk y = uncovered(1);
        y.contract(0, 0, 1, 1, 0, 359);
        checks.due("on DAY 0", 1, y.covered(0, 0, 0, 0));
        checks.due("on DAY 359", 1, y.covered(0, 0, 0, 359));
        passTo(y, 359);
        checks.due("READ on DAY 359", 10, y.read(0, 0, 1, 100, 0));
    }

    private static void coveredByOneContractForAllThat() {
        DatamarketDesk x = new DatamarketDesk();
        x.set(2);
        x.set(2);
        x.version(0, 100);
        x.contract(0, 0, 1, 2, 0, 0);
        x.contract(0, 0, 2, 1, 0, 0);
        x.contract(1, 0, 1, 1, 0, 0);
        x.contract(0, 1, 1, 1, 0, 0);
        x.contract(0, 0, 1, 1, 1, 1);
        checks.due("FIELD 1 for PURPOSE 0", 2, x.covered(0, 0, 0, 0));
        checks.due("FIELD 0 for PURPOSE 1", 1, x.covered(0, 0, 1, 0));
        checks.due("nothing for PURPOSE 2", 0, x.covered(0, 0, 2, 0));
        checks.due("of the other SET", 1, x.covered(0, 1, 0, 0));
        checks.due("of the other READER", 1, x.covered(1, 0, 0, 0));
        checks.due("on another DAY", 1, x.covered(0, 0, 0, 1));
        checks.badState("parts of two CONTRACTS are none", x, () -> x.read(0, 0, 1, 1, 0));
        checks.badState("one of two FIELDS", x, () -> x.read(0, 0, 3, 1, 0));
        checks.due("the other one", 0, x.read(0, 0, 2, 1, 0));
        for (int purpose = 0; purpose < 4; purpose++) {
            x.contract(2, 0, 3, 1 << purpose, 0, 0);
            for (int asked = 0; asked < 4; asked++) {
                checks.due("each PURPOSE for itself", asked <= purpose ? 3 : 0, x.covered(2, 0, asked, 0));
            }
        }
    }

    // ---- "To END a CONTRACT is to let it be for no DAY behind today any more"

    private static void endedContracts() {
        DatamarketDesk x = uncovered(1);
        x.contract(0, 0, 1, 1, 0, 10);
        x.contract(1, 0, 1, 1, 6, 10);
        x.contract(2, 0, 1, 1, 5, 10);
        x.contract(3, 0, 1, 1, 0, 5);
        x.contract(4, 0, 1, 1, 0, 4);
        x.contract(5, 0, 1, 1, 6, 6);
        passTo(x, 5);
        int[] lost = {5, 5, 5, 0, 0, 1};
        int[] forToday = {1, 0, 1, 1, 0, 0};
        int[] forYesterday = {1, 0, 0, 1, 1, 0};
        for (int reader = 0; reader < 6; reader++) {
            checks.due("DAYS behind today of " + reader, lost[reader], x.end(reader));
            checks.due("none again of " + reader, 0, x.end(reader));
            checks.due("today of " + reader, forToday[reader], x.covered(reader, 0, 0, 5));
            checks.due("for today of " + reader, forToday[reader], x.ofReader(reader, 6));
            checks.due("tomorrow of " + reader, 0, x.covered(reader, 0, 0, 6));
            checks.due("the last DAY of " + reader, 0, x.covered(reader, 0, 0, 10));
            checks.due("yesterday of " + reader, forYesterday[reader], x.covered(reader, 0, 0, 4));
        }
        checks.due("a READ today yet", 1, x.read(0, 0, 1, 10, 0));
        checks.badState("not of one that never begins", x, () -> x.read(1, 0, 1, 10, 0));
        x.pass(1);
        checks.badState("nor tomorrow", x, () -> x.read(0, 0, 1, 10, 0));
        checks.badState("nor as it would have begun", x, () -> x.read(1, 0, 1, 10, 0));
        for (int reader = 0; reader < 6; reader++) {
            checks.due("a DAY later nothing more", 0, x.end(reader));
            checks.due("what was stays", forToday[reader], x.covered(reader, 0, 0, 5));
        }
    }

    private static void endedAtTheEdges() {
        DatamarketDesk x = uncovered(1);
        x.contract(0, 0, 1, 1, 0, 359);
        x.contract(0, 0, 1, 1, 359, 359);
        x.contract(0, 0, 1, 1, 1, 359);
        x.contract(0, 0, 1, 1, 0, 0);
        checks.due("all but today", 359, x.end(0));
        checks.due("the last DAY", 1, x.end(1));
        checks.due("all but a first DAY before it", 359, x.end(2));
        checks.due("today alone", 0, x.end(3));
        checks.due("today is left", 1, x.covered(0, 0, 0, 0));
        checks.due("CONTRACTS for today", 2, x.ofReader(0, 6));
        checks.due("CONTRACTS ever", 4, x.many(3));
        x.contract(0, 0, 1, 1, 0, 359);
        passTo(x, 359);
        checks.due("on the last DAY none is behind", 0, x.end(4));
        checks.due("it is for that DAY yet", 1, x.covered(0, 0, 0, 359));
        for (int contract = 5; contract < 16; contract++) {
            checks.due("ended ones count", contract, x.contract(0, 0, 1, 1, 359, 359));
        }
        checks.badState("the 17th", x, () -> x.contract(0, 0, 1, 1, 359, 359));
        checks.due("the 16th", 0, x.end(15));
    }

    // ---- "3 READS: at most 40 .."

    private static void readsOfTheLatest() {
        DatamarketDesk x = openDesk(2);
        x.version(0, 10);
        checks.badState("more than the LATEST has", x, () -> x.read(0, 0, 3, 11, 0));
        checks.due("all that it has", 2, x.read(0, 0, 3, 10, 0));
        x.version(0, 11);
        checks.due("all that the next one has", 2, x.read(0, 0, 3, 11, 0));
        checks.due("its VERSION", 2, x.ofRead(1, 2));
        checks.due("the first one's VERSION stays", 1, x.ofRead(0, 2));
        x.report(0, 1, 0, 100);
        checks.due("CREDIT by its own VERSION", 1, x.ofRead(0, 9));
        checks.due("CREDIT by its own VERSION", 0, x.ofRead(1, 9));
    }

    private static void readsOfFirstAndLast() {
        DatamarketDesk x = new DatamarketDesk();
        for (int set = 0; set < 8; set++) {
            x.set(6);
            x.version(set, 9999);
        }
        x.contract(0, 0, 1, 1, 0, 0);
        x.contract(5, 7, 32, 8, 359, 359);
        x.read(0, 0, 1, 1, 0);
        passTo(x, 359);
        x.terms(7, 5, 99, 1000);
        for (int version = 1; version < 6; version++) {
            x.version(7, 9999);
        }
        x.read(5, 7, 32, 9999, 3);
        x.report(7, 5, 5, 100);
        x.bill(0);
        int[] first = {0, 0, 0, 1, 1, 0, 1, 4, 0, 0, 0, 0};
        int[] last = {5, 7, 5, 32, 9999, 359, 9999, 4, 9899, 9899, 0, 3};
        for (int what = 0; what <= 11; what++) {
            checks.due("first of all, " + what, first[what], x.ofRead(0, what));
            checks.due("last of all, " + what, last[what], x.ofRead(1, what));
        }
    }

    /** All that goes over all READS, with as many as there may be. */
    private static void fortyReads() {
        DatamarketDesk x = openDesk(6);
        x.contract(1, 0, 63, 15, 0, 359);
        for (int read = 0; read < 40; read++) {
            checks.due("READS before", read, x.many(4));
            x.read(read % 2, 0, 1 << read % 6, 10 + read, read % 4);
            checks.due("its UNITS", 10 + read, x.ofRead(read, 6));
        }
        checks.badState("the 41st", x, () -> x.read(0, 0, 1, 1, 0));
        checks.due("READS", 40, x.many(4));
        checks.due("of one", 20, x.ofReader(0, 1));
        checks.due("of the SET", 40, x.ofSet(0, 4));
        int due = 0;
        for (int read = 0; read < 40; read++) {
            due += read % 2 == 1 ? (10 + read) / 10 : 0;
        }
        checks.due("CHARGES of one", due, x.ofReader(1, 2));
        checks.due("BILL of one", due, x.bill(1));
        checks.due("its 40th READ is BILLED", 4, x.ofRead(39, 10));
        checks.due("the 39th is not", 0, x.ofRead(38, 10));
        checks.due("needed by all of one", 20, x.neededBy(0));
        checks.due("BILLED in all", due, x.many(7));
        checks.due("the other's BILL", x.many(5) - due, x.bill(0));
    }

    private static void tiers() {
        int[][] unitsBeforeAndTier = {{0, 4}, {1, 4}, {4999, 4}, {5000, 3}, {5001, 3}, {19999, 3}, {20000, 2},
                {20001, 2}};
        for (int[] row : unitsBeforeAndTier) {
            DatamarketDesk x = openDesk(6);
            int left = row[0];
            int read = 0;
            while (left > 0) {
                int now = Math.min(left, 9999);
                x.read(0, 0, 1, now, read % 4);
                left -= now;
                read++;
            }
            String what = "behind " + row[0] + " UNITS";
            checks.due(what, row[0], x.ofReader(0, 0));
            checks.due(what + ", a quote", 6 * (9999 * 10 * row[1] / 400), x.quote(0, 0, 63, 9999));
            checks.due(what + ", another's quote", 6 * 999, x.quote(1, 0, 63, 9999));
            checks.due(what + ", a READ", 6 * (9999 * 10 * row[1] / 400), x.read(0, 0, 63, 9999, 0));
            checks.due(what + ", its TIER", row[1], x.ofRead(read, 7));
            checks.due(what + ", its UNITS", 59994, x.ofRead(read, 6));
            x.read(0, 0, 1, 1, 0);
            checks.due("behind those TIER 2", 2, x.ofRead(read + 1, 7));
        }
        DatamarketDesk y = openDesk(6);
        for (int field = 0; field < 6; field++) {
            y.terms(0, field, 99, 1000);
        }
        checks.due("the greatest CHARGE, TIER 4", 6 * 9899, y.read(0, 0, 63, 9999, 0));
        checks.due("the greatest CHARGE, TIER 2", 6 * 4949, y.read(0, 0, 63, 9999, 0));
        DatamarketDesk z = openDesk(5);
        checks.due("5 FIELDS of 1000 ROWS", 500, z.read(0, 0, 31, 1000, 0));
        checks.due("are 5000 UNITS", 7, z.read(0, 0, 1, 100, 0));
    }

    private static void tierCountsAllSets() {
        DatamarketDesk x = new DatamarketDesk();
        x.set(1);
        x.set(2);
        x.version(0, 9999);
        x.version(1, 9999);
        x.contract(0, 0, 1, 1, 0, 359);
        x.contract(0, 1, 3, 8, 0, 359);
        x.contract(1, 1, 3, 8, 0, 359);
        x.read(0, 0, 1, 4999, 0);
        x.read(1, 1, 3, 9999, 3);
        checks.due("those of another READER do not count", 100, x.read(0, 1, 1, 1000, 3));
        checks.due("those of all SETS and PURPOSES count", 75, x.read(0, 1, 1, 1000, 3));
        checks.due("UNITS of all SETS", 4999 + 2000, x.ofReader(0, 0));
        x.bill(0);
        x.version(1, 100);
        checks.due("those of an older VERSION, and BILLED ones, count", 7, x.read(0, 1, 1, 100, 3));
    }

    private static void chargeStays() {
        DatamarketDesk x = openDesk(2);
        x.terms(0, 0, 99, 1000);
        checks.due("with its PRICE as it is then", 99 * 4 + 40, x.read(0, 0, 3, 400, 0));
        x.terms(0, 0, 1, 1000);
        checks.due("that stays", 436, x.ofRead(0, 8));
        checks.due("with the new PRICE", 4 + 40, x.read(0, 0, 3, 400, 0));
        x.read(0, 0, 3, 9999, 0);
        checks.due("TIER stays", 4, x.ofRead(0, 7));
        checks.due("CHARGE stays", 436, x.ofRead(0, 8));
        x.pass(30);
        checks.due("TIER stays in another PERIOD", 4, x.ofRead(0, 7));
        x.end(0);
        checks.due("CHARGE stays as the CONTRACT is ENDED", 436 + 44 + 99 + 999, x.ofReader(0, 2));
    }

    private static void creditAsItIsNow() {
        DatamarketDesk x = openDesk(2);
        x.report(0, 0, 0, 50);
        x.read(0, 0, 3, 1000, 0);
        checks.due("of a FIELD that has HARM already", 50, x.ofRead(0, 9));
        x.terms(0, 1, 99, 0);
        checks.due("by what is MISSING", 100, x.missing(0, 1, 1000));
        checks.due("as HARM is now", 50 + 100, x.ofRead(0, 9));
        checks.due("of a READER", 150, x.ofReader(0, 3));
        checks.due("of a SET", 150, x.ofSet(0, 6));
        checks.due("of all", 150, x.many(6));
        checks.due("the rest is worth", 50.0, x.meanWorth());
        checks.due("to the last", 50, x.report(0, 0, 0, 100));
        checks.due("then worth nothing", 0.0, x.meanWorth());
        checks.due("nothing to be paid", 0, x.bill(0));
        checks.due("CREDIT is each FIELD's own, cut", 9 + 9, creditOfTwoFields());
    }

    private static int creditOfTwoFields() {
        DatamarketDesk x = openDesk(2);
        x.read(0, 0, 3, 190, 0);
        x.report(0, 0, 0, 50);
        x.report(0, 0, 1, 52);
        return x.ofRead(0, 9);
    }

    // ---- "PREVIEWS are free, and need no CONTRACT .."

    private static void previewsByHowManyFields() {
        int[] half = {0, 1, 1, 2, 2, 3, 3};
        for (int fields = 1; fields <= 6; fields++) {
            DatamarketDesk x = openDesk(fields);
            DatamarketDesk y = uncovered(fields);
            int seen = 0;
            for (int field = 0; field < fields; field++) {
                int next = 1 << field;
                int all = (1 << fields) - 1;
                boolean over = field + 1 > half[fields];
                duePreview("covered, of " + fields, x, next, over ? 0 : seen | next);
                duePreview("not covered, of " + fields, y, next, over || (seen | next) == all ? 0 : seen | next);
                seen = over ? seen : seen | next;
            }
        }
    }

    /** 0 stands for a PREVIEW that is refused. */
    private static void duePreview(String what, DatamarketDesk x, int fields, int due) {
        if (due == 0) {
            checks.badState(what + ": " + fields, x, () -> x.preview(0, 0, fields));
        } else {
            checks.due(what + ": " + fields, due, x.preview(0, 0, fields));
        }
    }

    private static void previewsAreFree() {
        DatamarketDesk x = uncovered(6);
        checks.due("without a CONTRACT", 48, x.preview(3, 0, 48));
        for (int what = 0; what <= 6; what++) {
            checks.due("nothing to be paid", 0, x.ofReader(3, what));
        }
        checks.due("no READ", 0, x.many(4));
        checks.due("each FIELD again", 48, x.preview(3, 0, 16));
        checks.due("one more", 49, x.preview(3, 0, 1));
        checks.badState("no fourth", x, () -> x.preview(3, 0, 2));
        checks.badState("no fourth beside a third", x, () -> x.preview(3, 0, 3));
        checks.due("two of the three", 49, x.preview(3, 0, 33));
        x.version(0, 1);
        checks.badState("nor of the next VERSION", x, () -> x.preview(3, 0, 2));
        passTo(x, 359);
        checks.badState("nor ever", x, () -> x.preview(3, 0, 2));
    }

    private static void previewsAndWhatIsCovered() {
        DatamarketDesk x = uncovered(4);
        for (int field = 0; field < 2; field++) {
            x.contract(0, 0, 1 << field, 1 << 3 * field, 0, 5);
        }
        x.contract(0, 0, 4, 2, 1, 1);
        x.contract(0, 0, 12, 4, 2, 5);
        checks.badState("COVERED and PREVIEWED would be all", x, () -> x.preview(0, 0, 12));
        checks.due("all but one", 8, x.preview(0, 0, 8));
        checks.badState("then that one not", x, () -> x.preview(0, 0, 4));
        checks.due("but what is COVERED", 9, x.preview(0, 0, 1));
        x.pass(1);
        checks.badState("COVERED today, with those before", x, () -> x.preview(0, 0, 1));
        checks.due("none at all", 0, x.previews(0, 0));
        x.pass(1);
        checks.due("all COVERED today, each for some PURPOSE", 9, x.preview(0, 0, 1));
        checks.badState("not more than half of them", x, () -> x.preview(0, 0, 2));
        passTo(x, 5);
        checks.due("the last DAY of all CONTRACTS", 9, x.preview(0, 0, 9));
        x.pass(1);
        checks.due("none COVERED", 9, x.preview(0, 0, 9));
        x.contract(0, 0, 6, 1, 6, 359);
        checks.badState("the rest COVERED", x, () -> x.preview(0, 0, 8));
        x.end(4);
        checks.badState("ENDED, it is for today yet", x, () -> x.preview(0, 0, 8));
        x.pass(1);
        checks.due("ENDED yesterday", 9, x.preview(0, 0, 8));
    }

    private static void previewsOfEachReaderAndSet() {
        DatamarketDesk x = new DatamarketDesk();
        for (int set = 0; set < 8; set++) {
            x.set(6);
            x.version(set, 1);
        }
        int[] pairs = {3, 5, 9, 17, 33, 6, 10, 18, 34, 12, 20, 36, 24, 40, 48};
        for (int time = 0; time < 2; time++) {
            for (int reader = 0; reader < 6; reader++) {
                for (int set = 0; set < 8; set++) {
                    int pair = pairs[(reader * 8 + set) * 7 % 15];
                    checks.due("of that READER of that SET alone", pair, x.preview(reader, set, pair));
                }
            }
        }
    }

    // ---- "4 BILLS .."

    private static void bills() {
        DatamarketDesk x = openDesk(1);
        checks.due("without READS", 0, x.bill(0));
        x.read(0, 0, 1, 1000, 0);
        checks.due("what it would be", 100, x.ofReader(0, 5));
        checks.due("nothing was BILLED", 0, x.ofReader(0, 4));
        checks.due("all of it", 100, x.bill(0));
        checks.due("then nothing", 0, x.ofReader(0, 5));
        checks.due("BILLED", 100, x.ofReader(0, 4));
        x.report(0, 0, 0, 1);
        checks.due("one is paid back", -1, x.ofReader(0, 5));
        checks.due("it stays BILLED till then", 100, x.ofRead(0, 10));
        checks.due("one is paid back", -1, x.bill(0));
        checks.due("BILLED then", 99, x.ofRead(0, 10));
        checks.due("worth it", 0, x.bill(0));
        x.read(0, 0, 1, 10, 0);
        x.report(0, 0, 0, 2);
        checks.due("some back and some more", 1 - 1, x.bill(0));
        checks.due("BILLED of the first", 98, x.ofRead(0, 10));
        checks.due("BILLED of the second", 1, x.ofRead(1, 10));
        x.report(0, 0, 0, 100);
        checks.due("all is paid back", -99, x.bill(0));
        checks.due("nothing is BILLED", 0, x.many(7));
        checks.due("of one without READS", 0, x.bill(5));
    }

    // ---- what the promises say that is returned

    private static void fieldsWithHarm() {
        DatamarketDesk x = new DatamarketDesk();
        for (int set = 0; set < 8; set++) {
            x.set(6);
        }
        checks.due("0 without a VERSION", 0, x.ofSet(7, 3));
        for (int version = 0; version < 6; version++) {
            for (int set = 0; set < 8; set++) {
                x.version(set, 1);
                checks.due("0 of a new one", 0, x.ofSet(set, 3));
                x.report(set, version, 0, 1);
                checks.due("the first", 1, x.ofSet(set, 3));
            }
        }
        for (int field = 5; field >= 0; field--) {
            x.report(7, 5, field, 1);
            checks.due("of the last VERSION of the last SET", field == 0 ? 6 : 7 - field, x.ofSet(7, 3));
        }
        x.report(6, 4, 3, 100);
        checks.due("of the LATEST one alone", 1, x.ofSet(6, 3));
        checks.due("all VERSIONS", 48, x.many(1));
    }

    private static void contractsForToday() {
        DatamarketDesk x = uncovered(1);
        for (int contract = 0; contract < 16; contract++) {
            x.contract(contract % 2, 0, 1, 1, contract, 30 - contract);
        }
        int[] days = {0, 1, 14, 15, 16, 29, 30, 31};
        int[] due = {1, 1, 8, 8, 8, 1, 1, 0};
        for (int at = 0; at < days.length; at++) {
            passTo(x, days[at]);
            checks.due("for DAY " + days[at], due[at], x.ofReader(0, 6));
        }
    }

    private static void meanWorth() {
        DatamarketDesk x = openDesk(1);
        checks.due("0 without READS", 0.0, x.meanWorth());
        x.read(0, 0, 1, 1, 0);
        checks.due("0 of a READ for nothing", 0.0, x.meanWorth());
        x.read(0, 0, 1, 10, 0);
        checks.due("not cut", 0.5, x.meanWorth());
        x.read(0, 0, 1, 9, 0);
        checks.due("not cut", 1.0 / 3.0, x.meanWorth());
        for (int read = 3; read < 40; read++) {
            x.read(0, 0, 1, 1, 0);
        }
        checks.due("of forty", 0.025, x.meanWorth());
        x.report(0, 0, 0, 100);
        checks.due("all is CREDIT", 0.0, x.meanWorth());
    }

    private static void quotes() {
        DatamarketDesk x = new DatamarketDesk();
        x.set(2);
        checks.due("without a VERSION, not COVERED", 999 + 999, x.quote(0, 0, 3, 9999));
        x.version(0, 1);
        checks.due("more ROWS than there are", 999, x.quote(0, 0, 2, 9999));
        x.contract(0, 0, 3, 15, 0, 359);
        x.version(0, 5000);
        for (int read = 0; read < 39; read++) {
            x.read(0, 0, 1, 1, 0);
        }
        checks.due("as the READ", x.quote(0, 0, 3, 4961), x.read(0, 0, 3, 4961, 0));
        checks.due("though there are 40 READS", 749, x.quote(0, 0, 1, 9999));
        x.terms(0, 0, 99, 1000);
        checks.due("with the PRICE today", 7424, x.quote(0, 0, 1, 9999));
        x.report(0, 1, 0, 100);
        checks.due("less no CREDIT", 7424, x.quote(0, 0, 1, 9999));
    }

    private static void creditBy() {
        DatamarketDesk x = chainOfEight(99);
        for (int set = 0; set < 8; set++) {
            x.contract(set % 6, set, 1, 1, 0, 0);
            x.read(set % 6, set, 1, 1000, 0);
        }
        int[] harms = {1, 2, 50, 99, 100};
        for (int harm : harms) {
            long before = x.digest();
            int would = x.creditBy(0, 0, 0, harm);
            checks.due("nothing is changed", before, x.digest());
            int all = x.many(6);
            checks.due("what report() tells, " + harm, would, x.report(0, 0, 0, harm));
            checks.due("by how much all are greater, " + harm, would, x.many(6) - all);
            checks.due("nothing more by the same", 0, x.creditBy(0, 0, 0, harm));
            checks.due("nothing by less", 0, x.creditBy(0, 0, 0, 1));
        }
        checks.due("of the last, that has 93", 7, x.creditBy(7, 0, 0, 100));
        checks.due("of the last, that has 93", 1, x.creditBy(7, 0, 0, 94));
        checks.due("of the last, that has 93", 0, x.creditBy(7, 0, 0, 93));
    }

    private static void howManyPreviews() {
        int[] notCovered = {0, 0, 2, 6, 10, 15, 21};
        int[] covered = {0, 1, 2, 6, 10, 15, 21};
        for (int fields = 1; fields <= 6; fields++) {
            DatamarketDesk x = new DatamarketDesk();
            x.set(fields);
            checks.due("0 without a VERSION", 0, x.previews(0, 0));
            x.version(0, 1);
            checks.due("of " + fields, notCovered[fields], x.previews(0, 0));
            x.contract(0, 0, (1 << fields) - 1, 1, 1, 1);
            checks.due("of " + fields + ", COVERED tomorrow", notCovered[fields], x.previews(0, 0));
            x.pass(1);
            checks.due("of " + fields + ", COVERED", covered[fields], x.previews(0, 0));
            checks.due("of " + fields + ", another READER", notCovered[fields], x.previews(1, 0));
            x.pass(1);
            checks.due("of " + fields + ", COVERED yesterday", notCovered[fields], x.previews(0, 0));
        }
        DatamarketDesk y = uncovered(4);
        y.contract(0, 0, 7, 1, 0, 0);
        checks.due("all but the last one COVERED", 3 + 3, y.previews(0, 0));
        y.preview(0, 0, 3);
        checks.due("half of them seen", 2 + 1, y.previews(0, 0));
    }

    private static void neededByReads() {
        DatamarketDesk x = uncovered(6);
        for (int contract = 0; contract < 16; contract++) {
            x.contract(0, 0, 1 << contract % 6, 1, 0, 0);
        }
        x.read(0, 0, 48, 1, 0);
        x.read(0, 0, 32, 1, 0);
        x.read(0, 0, 15, 1, 0);
        for (int contract = 0; contract < 16; contract++) {
            checks.due("two of them for each FIELD", 0, x.neededBy(contract));
        }
        DatamarketDesk y = uncovered(6);
        for (int field = 0; field < 6; field++) {
            y.contract(0, 0, 1 << field, 1, 0, 0);
        }
        y.read(0, 0, 48, 1, 0);
        y.read(0, 0, 32, 1, 0);
        y.read(0, 0, 63, 1, 0);
        int[] due = {1, 1, 1, 1, 2, 3};
        for (int field = 0; field < 6; field++) {
            checks.due("one for each FIELD", due[field], y.neededBy(field));
        }
        y.contract(0, 0, 32, 2, 0, 359);
        y.contract(1, 0, 32, 1, 0, 359);
        checks.due("for another PURPOSE, or READER", 3, y.neededBy(5));
        checks.due("itself for none", 0, y.neededBy(6));
        checks.due("itself for none", 0, y.neededBy(7));
        y.contract(0, 0, 36, 3, 0, 0);
        checks.due("one more, later the same DAY", 0, y.neededBy(5));
        checks.due("of FIELD 2 too", 0, y.neededBy(2));
        checks.due("nor is that one needed", 0, y.neededBy(8));
    }

    private static void neededByItsDays() {
        DatamarketDesk x = uncovered(1);
        x.contract(0, 0, 1, 1, 2, 4);
        x.contract(0, 0, 1, 1, 4, 9);
        for (int day = 2; day <= 5; day++) {
            passTo(x, day);
            x.read(0, 0, 1, 1, 0);
        }
        checks.due("its own DAYS", 2, x.neededBy(0));
        checks.due("its own DAYS", 1, x.neededBy(1));
        checks.due("DAYS behind today", 4, x.end(1));
        checks.due("what it was needed for stays", 1, x.neededBy(1));
        x.pass(1);
        x.contract(0, 0, 1, 1, 6, 9);
        checks.due("one from today on", 1, x.neededBy(1));
        checks.due("for no READ yet", 0, x.neededBy(2));
        x.read(0, 0, 1, 1, 0);
        checks.due("for a READ today", 1, x.neededBy(2));
    }

    private static void digests() {
        BigInteger d = BigInteger.valueOf(58124);
        for (int zero = 0; zero < 9 + 6 * 7; zero++) {
            d = d.multiply(BigInteger.valueOf(31));
        }
        checks.due("a new desk", d.longValue(), new DatamarketDesk().digest());

        DatamarketDesk x = new DatamarketDesk();
        x.set(1);
        int[] many = {1, 0, 0, 0, 0, 0, 0, 0, 0};
        int[] ofSet = {1, 0, 0, 0, 0, 0, 0};
        BigInteger e = onWith(onWith(BigInteger.valueOf(58124), many), ofSet);
        for (int reader = 0; reader < 6; reader++) {
            e = onWith(e, new int[9]);
        }
        checks.due("a SET", e.longValue(), x.digest());
        x.version(0, 50);
        x.contract(0, 0, 1, 2, 0, 0);
        x.read(0, 0, 1, 50, 1);
        x.report(0, 0, 0, 60);
        x.preview(0, 0, 1);
        BigInteger f = onWith(BigInteger.valueOf(58124), 1, 1, 0, 1, 1, 5, 3, 0, 0);
        f = onWith(f, 1, 1, 50, 1, 1, 5, 3, 60);
        f = onWith(f, 50, 1, 5, 3, 0, 2, 1, 0, 1);
        for (int reader = 1; reader < 6; reader++) {
            f = onWith(f, new int[9]);
        }
        f = onWith(f, 0, 0, 0, 1, 50, 0, 50, 4, 5, 3, 0, 1);
        checks.due("a READ", onWith(f, 1).longValue(), x.digest());
        checks.due("nothing is changed by it", onWith(f, 1).longValue(), x.digest());
    }

    private static BigInteger onWith(BigInteger start, int... numbers) {
        BigInteger d = start;
        for (int number : numbers) {
            d = d.multiply(BigInteger.valueOf(31)).add(BigInteger.valueOf(number));
        }
        return d;
    }

    // ---- "An object is used for at most 512 calls"

    private static void lastOf512Calls() {
        DatamarketDesk x = openDesk(1);
        for (int made = 3; made < 510; made++) {
            x.report(0, 0, 0, 1 + made % 7);
        }
        checks.due("the 511th call", 1000 / 10, x.read(0, 0, 1, 1000, 0));
        checks.due("the 512th call", 100 - 7, x.bill(0));
    }
}
