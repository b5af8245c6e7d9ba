/** A desk where data sets are sold to read. */
public final class DatamarketDesk {
    private static final int NONE = -1;
    private static final int MOST_SETS = 8;
    private static final int MOST_FIELDS = 6;
    private static final int MOST_VERSIONS = 6;
    private static final int MOST_ROWS = 9999;
    private static final int MOST_SOURCES = 20;
    /** A SOURCE belongs to one SET, so each VERSION of that adds one link of it at most. */
    private static final int MOST_LINKS = MOST_SOURCES * MOST_VERSIONS;
    private static final int PLACES = MOST_SETS * MOST_VERSIONS * MOST_FIELDS;
    private static final int FIRST_PRICE = 10;
    private static final int MOST_PRICE = 99;
    private static final int MOST_MISSING = 1000;
    private static final int MOST_SHARE = 100;
    private static final int MOST_HARM = 100;
    private static final int READERS = 6;
    private static final int PURPOSES = 4;
    private static final int ALL_PURPOSES = 15;
    private static final int MOST_CONTRACTS = 16;
    private static final int MOST_READS = 40;
    private static final int LAST_DAY = 359;
    private static final int PERIOD_DAYS = 30;
    private static final int MOST_DAYS_AT_ONCE = 30;
    private static final int MOST_FIELDS_AT_ONCE = 2;
    private static final long DIGEST_START = 58124L;

    private final Shelf shelf;
    private final Lineage lineage;
    private final Harms harms;
    private final Contracts contracts;
    private final Reads reads;
    /** By READER and SET, the FIELDS of all PREVIEWS. */
    private final int[] previewed;
    private int today;

    public DatamarketDesk() {
        shelf = new Shelf();
        lineage = new Lineage();
        harms = new Harms();
        contracts = new Contracts();
        reads = new Reads();
        previewed = new int[READERS * MOST_SETS];
        today = 0;
    }

    // ---- sets

    public int set(int fields) throws IllegalArgumentException, IllegalStateException {
        if (fields < 1 || fields > MOST_FIELDS) {
            throw new IllegalArgumentException("fields is not 1 to 6");
        }
        if (shelf.setCount >= MOST_SETS) {
            throw new IllegalStateException("there are 8 sets");
        }
        return shelf.addSet(fields);
    }

    public int terms(int set, int field, int price, int rule)
            throws IndexOutOfBoundsException, IllegalArgumentException {
        needField(set, field);
        if (price < 1 || price > MOST_PRICE) {
            throw new IllegalArgumentException("price is not 1 to 99");
        }
        if (rule < 0 || rule > MOST_MISSING) {
            throw new IllegalArgumentException("rule is not 0 to 1000");
        }
        int at = fieldAt(set, field);
        int before = shelf.prices[at];
        shelf.prices[at] = price;
        shelf.rules[at] = rule;
        return before;
    }

    public int source(int set, int field, int from, int source, int share)
            throws IndexOutOfBoundsException, IllegalArgumentException, IllegalStateException {
        needField(set, field);
        needField(from, source);
        if (from >= set) {
            throw new IllegalArgumentException("from is not below set");
        }
        if (share < 1 || share > MOST_SHARE) {
            throw new IllegalArgumentException("share is not 1 to 100");
        }
        int child = fieldAt(set, field);
        int parent = fieldAt(from, source);
        int known = lineage.findSource(child, parent);
        if (known == NONE && lineage.sourceCount >= MOST_SOURCES) {
            throw new IllegalStateException("there are 20 sources");
        }
        if (known == NONE) {
            lineage.addSource(child, parent, share);
        } else {
            lineage.sourceShares[known] = share;
        }
        return lineage.countSources(child);
    }

    public int version(int set, int rows)
            throws IndexOutOfBoundsException, IllegalArgumentException, IllegalStateException {
        needSet(set);
        if (rows < 1 || rows > MOST_ROWS) {
            throw new IllegalArgumentException("rows is not 1 to 9999");
        }
        if (shelf.versions[set] >= MOST_VERSIONS) {
            throw new IllegalStateException("there are 6 versions");
        }
        int version = shelf.addVersion(set, rows);
        lineage.linkVersion(shelf, set, version);
        harms.settle(lineage);
        return version;
    }

    public int missing(int set, int field, int missing)
            throws IndexOutOfBoundsException, IllegalArgumentException, IllegalStateException {
        needField(set, field);
        if (missing < 0 || missing > MOST_MISSING) {
            throw new IllegalArgumentException("missing is not 0 to 1000");
        }
        int version = shelf.latestVersion(set);
        if (version == NONE) {
            throw new IllegalStateException("there is no version");
        }
        int place = placeAt(set, version, field);
        if (harms.told[place]) {
            throw new IllegalStateException("it was told");
        }
        int over = missing - shelf.rules[fieldAt(set, field)];
        harms.told[place] = true;
        harms.raise(place, over > 0 ? over / 10 : 0);
        harms.settle(lineage);
        return harms.now[place];
    }

    public int report(int set, int version, int field, int harm)
            throws IndexOutOfBoundsException, IllegalArgumentException {
        needPlace(set, version, field);
        needHarm(harm);
        int place = placeAt(set, version, field);
        int greater = creditGain(place, harm);
        harms.raise(place, harm);
        harms.settle(lineage);
        return greater;
    }

    public int harm(int set, int version, int field) throws IndexOutOfBoundsException {
        needPlace(set, version, field);
        return harms.now[placeAt(set, version, field)];
    }

    public int ofSet(int set, int what) throws IndexOutOfBoundsException, IllegalArgumentException {
        needSet(set);
        switch (what) {
            case 0: return shelf.fields[set];
            case 1: return shelf.versions[set];
            case 2: return shelf.latestRows(set);
            case 3: return harmedFields(set);
            case 4: return reads.count(NONE, set);
            case 5: return reads.charge(NONE, set);
            case 6: return reads.credit(NONE, set, harms.now);
            default: throw new IllegalArgumentException("what is not 0 to 6");
        }
    }

    public boolean isMadeOf(int set, int version, int field, int from, int other, int source)
            throws IndexOutOfBoundsException {
        needPlace(set, version, field);
        needPlace(from, other, source);
        return lineage.leadsTo(placeAt(set, version, field), placeAt(from, other, source));
    }

    // ---- contracts

    public int contract(int reader, int set, int fields, int purposes, int from, int to)
            throws IndexOutOfBoundsException, IllegalArgumentException, IllegalStateException {
        needReader(reader);
        needSet(set);
        needFields(set, fields);
        if (purposes < 1 || purposes > ALL_PURPOSES) {
            throw new IllegalArgumentException("purposes is not 1 to 15");
        }
        if (from < today || to < from || to > LAST_DAY) {
            throw new IllegalArgumentException("from and to are not days from today on");
        }
        if (contracts.count >= MOST_CONTRACTS) {
            throw new IllegalStateException("there are 16 contracts");
        }
        return contracts.add(reader, set, fields, purposes, from, to);
    }

    public int end(int contract) throws IndexOutOfBoundsException {
        needContract(contract);
        return contracts.cut(contract, today);
    }

    public int covered(int reader, int set, int purpose, int day)
            throws IndexOutOfBoundsException, IllegalArgumentException {
        needReader(reader);
        needSet(set);
        needPurpose(purpose);
        if (day < 0 || day > LAST_DAY) {
            throw new IllegalArgumentException("day is not 0 to 359");
        }
        return contracts.open(reader, set, 1 << purpose, day, NONE);
    }

    // ---- reads

    public int read(int reader, int set, int fields, int rows, int purpose)
            throws IndexOutOfBoundsException, IllegalArgumentException, IllegalStateException {
        needReader(reader);
        needSet(set);
        needPurpose(purpose);
        needFields(set, fields);
        if (rows < 1) {
            throw new IllegalArgumentException("rows is below 1");
        }
        if (reads.count >= MOST_READS) {
            throw new IllegalStateException("there are 40 reads");
        }
        if (rows > shelf.latestRows(set)) {
            throw new IllegalStateException("the latest version has fewer rows");
        }
        if ((fields & ~contracts.open(reader, set, 1 << purpose, today, NONE)) != 0) {
            throw new IllegalStateException("a field is not covered");
        }
        return enterRead(reader, set, fields, rows, purpose);
    }

    public int preview(int reader, int set, int fields)
            throws IndexOutOfBoundsException, IllegalArgumentException, IllegalStateException {
        needReader(reader);
        needSet(set);
        needFields(set, fields);
        if (Integer.bitCount(fields) > MOST_FIELDS_AT_ONCE) {
            throw new IllegalArgumentException("fields are more than 2");
        }
        if (shelf.versions[set] == 0) {
            throw new IllegalStateException("the set has no version");
        }
        int at = previewAt(reader, set);
        int seen = previewed[at] | fields;
        if (!mayBeSeen(set, seen, openToday(reader, set))) {
            throw new IllegalStateException("too much would be seen");
        }
        previewed[at] = seen;
        return seen;
    }

    public int ofRead(int read, int what) throws IndexOutOfBoundsException, IllegalArgumentException {
        if (read < 0 || read >= reads.count) {
            throw new IndexOutOfBoundsException("no such read");
        }
        switch (what) {
            case 0: return reads.readers[read];
            case 1: return reads.sets[read];
            case 2: return reads.versions[read];
            case 3: return reads.fields[read];
            case 4: return reads.rows[read];
            case 5: return reads.days[read];
            case 6: return reads.unitsOf(read);
            case 7: return reads.tiers[read];
            case 8: return reads.chargeOf(read);
            case 9: return reads.creditOf(read, harms.now);
            case 10: return reads.billed[read];
            case 11: return reads.purposes[read];
            default: throw new IllegalArgumentException("what is not 0 to 11");
        }
    }

    public int ofReader(int reader, int what) throws IndexOutOfBoundsException, IllegalArgumentException {
        needReader(reader);
        switch (what) {
            case 0: return reads.unitsInPeriod(reader, today);
            case 1: return reads.count(reader, NONE);
            case 2: return reads.charge(reader, NONE);
            case 3: return reads.credit(reader, NONE, harms.now);
            case 4: return reads.billedTo(reader);
            case 5: return reads.due(reader, harms.now);
            case 6: return contracts.countOpen(reader, today);
            default: throw new IllegalArgumentException("what is not 0 to 6");
        }
    }

    public int bill(int reader) throws IndexOutOfBoundsException {
        needReader(reader);
        int due = reads.due(reader, harms.now);
        reads.settle(reader, harms.now);
        return due;
    }

    public int pass(int days) throws IllegalArgumentException, IllegalStateException {
        if (days < 1 || days > MOST_DAYS_AT_ONCE) {
            throw new IllegalArgumentException("days is not 1 to 30");
        }
        if (today + days > LAST_DAY) {
            throw new IllegalStateException("the day would be above 359");
        }
        today += days;
        return today;
    }

    public int many(int what) throws IllegalArgumentException {
        switch (what) {
            case 0: return shelf.setCount;
            case 1: return shelf.allVersions();
            case 2: return lineage.sourceCount;
            case 3: return contracts.count;
            case 4: return reads.count;
            case 5: return reads.charge(NONE, NONE);
            case 6: return reads.credit(NONE, NONE, harms.now);
            case 7: return reads.billedTo(NONE);
            case 8: return today;
            default: throw new IllegalArgumentException("what is not 0 to 8");
        }
    }

    public double meanWorth() {
        if (reads.count <= 0) {
            return 0.0;
        }
        int worth = reads.charge(NONE, NONE) - reads.credit(NONE, NONE, harms.now);
        return (double) worth / (double) reads.count;
    }

    // ---- what would be (nothing is changed)

    public int quote(int reader, int set, int fields, int rows)
            throws IndexOutOfBoundsException, IllegalArgumentException {
        needReader(reader);
        needSet(set);
        needFields(set, fields);
        if (rows < 1 || rows > MOST_ROWS) {
            throw new IllegalArgumentException("rows is not 1 to 9999");
        }
        int tier = reads.tier(reader, today);
        int sum = 0;
        for (int field = 0; field < shelf.fields[set]; field++) {
            if (has(fields, field)) {
                sum += shelf.fieldCharge(set, field, rows, tier);
            }
        }
        return sum;
    }

    public int creditBy(int set, int version, int field, int harm)
            throws IndexOutOfBoundsException, IllegalArgumentException {
        needPlace(set, version, field);
        needHarm(harm);
        return creditGain(placeAt(set, version, field), harm);
    }

    public int previews(int reader, int set) throws IndexOutOfBoundsException {
        needReader(reader);
        needSet(set);
        if (shelf.versions[set] == 0) {
            return 0;
        }
        int before = previewed[previewAt(reader, set)];
        int open = openToday(reader, set);
        int all = shelf.allFields(set);
        int possible = 0;
        for (int fields = 1; fields <= all; fields++) {
            if (Integer.bitCount(fields) <= MOST_FIELDS_AT_ONCE && mayBeSeen(set, before | fields, open)) {
                possible++;
            }
        }
        return possible;
    }

    public int neededBy(int contract) throws IndexOutOfBoundsException {
        needContract(contract);
        int needed = 0;
        for (int read = 0; read < reads.count; read++) {
            if (needsContract(read, contract)) {
                needed++;
            }
        }
        return needed;
    }

    public long digest() {
        long sum = DIGEST_START;
        for (int what = 0; what <= 8; what++) {
            sum = sum * 31 + many(what);
        }
        for (int set = 0; set < shelf.setCount; set++) {
            sum = digestSet(sum, set);
        }
        for (int reader = 0; reader < READERS; reader++) {
            sum = digestReader(sum, reader);
        }
        for (int read = 0; read < reads.count; read++) {
            for (int what = 0; what <= 11; what++) {
                sum = sum * 31 + ofRead(read, what);
            }
        }
        for (int contract = 0; contract < contracts.count; contract++) {
            sum = sum * 31 + neededBy(contract);
        }
        return sum;
    }

    private long digestSet(long start, int set) {
        long sum = start;
        for (int what = 0; what <= 6; what++) {
            sum = sum * 31 + ofSet(set, what);
        }
        for (int version = 0; version < shelf.versions[set]; version++) {
            for (int field = 0; field < shelf.fields[set]; field++) {
                sum = sum * 31 + harm(set, version, field);
            }
        }
        return sum;
    }

    private long digestReader(long start, int reader) {
        long sum = start;
        for (int what = 0; what <= 6; what++) {
            sum = sum * 31 + ofReader(reader, what);
        }
        for (int set = 0; set < shelf.setCount; set++) {
            sum = sum * 31 + covered(reader, set, 0, today);
            sum = sum * 31 + previews(reader, set);
        }
        return sum;
    }

    private int harmedFields(int set) {
        int version = shelf.latestVersion(set);
        if (version == NONE) {
            return 0;
        }
        int harmed = 0;
        for (int field = 0; field < shelf.fields[set]; field++) {
            if (harms.now[placeAt(set, version, field)] > 0) {
                harmed++;
            }
        }
        return harmed;
    }

    private int creditGain(int place, int harm) {
        int[] trial = harms.tryRaise(place, harm, lineage);
        return reads.credit(NONE, NONE, trial) - reads.credit(NONE, NONE, harms.now);
    }

    private int enterRead(int reader, int set, int fields, int rows, int purpose) {
        int read = reads.add(reader, set, shelf.latestVersion(set), fields, rows, purpose, today);
        for (int field = 0; field < shelf.fields[set]; field++) {
            if (has(fields, field)) {
                reads.charges[chargeAt(read, field)] =
                        shelf.fieldCharge(set, field, rows, reads.tiers[read]);
            }
        }
        return reads.chargeOf(read);
    }

    private int openToday(int reader, int set) {
        return contracts.open(reader, set, ALL_PURPOSES, today, NONE);
    }

    /** One who may not read all of a SET must not come to see all of it over PREVIEWS. */
    private boolean mayBeSeen(int set, int seen, int open) {
        int all = shelf.allFields(set);
        if (Integer.bitCount(seen) > (shelf.fields[set] + 1) / 2) {
            return false;
        }
        return open == all || (seen | open) != all;
    }

    private boolean needsContract(int read, int contract) {
        int reader = reads.readers[read];
        int set = reads.sets[read];
        int purpose = 1 << reads.purposes[read];
        int day = reads.days[read];
        if (!contracts.isFor(contract, reader, set, purpose, day)) {
            return false;
        }
        int others = contracts.open(reader, set, purpose, day, contract);
        return (reads.fields[read] & contracts.fields[contract] & ~others) != 0;
    }

    private void needSet(int set) {
        if (!shelf.hasSet(set)) {
            throw new IndexOutOfBoundsException("no such set");
        }
    }

    private void needField(int set, int field) {
        needSet(set);
        if (field < 0 || field >= shelf.fields[set]) {
            throw new IndexOutOfBoundsException("no such field");
        }
    }

    private void needPlace(int set, int version, int field) {
        needField(set, field);
        if (version < 0 || version >= shelf.versions[set]) {
            throw new IndexOutOfBoundsException("no such version");
        }
    }

    private void needFields(int set, int fields) {
        if (fields < 1 || fields > shelf.allFields(set)) {
            throw new IllegalArgumentException("fields is not a set of fields of the set");
        }
    }

    private static void needHarm(int harm) {
        if (harm < 1 || harm > MOST_HARM) {
            throw new IllegalArgumentException("harm is not 1 to 100");
        }
    }

    private static void needReader(int reader) {
        if (reader < 0 || reader >= READERS) {
            throw new IndexOutOfBoundsException("no such reader");
        }
    }

    private static void needPurpose(int purpose) {
        if (purpose < 0 || purpose >= PURPOSES) {
            throw new IndexOutOfBoundsException("no such purpose");
        }
    }

    private void needContract(int contract) {
        if (contract < 0 || contract >= contracts.count) {
            throw new IndexOutOfBoundsException("no such contract");
        }
    }

    private static boolean has(int fields, int field) {
        return ((fields >> field) & 1) != 0;
    }

    private static int fieldAt(int set, int field) {
        return set * MOST_FIELDS + field;
    }

    private static int versionAt(int set, int version) {
        return set * MOST_VERSIONS + version;
    }

    private static int placeAt(int set, int version, int field) {
        return (set * MOST_VERSIONS + version) * MOST_FIELDS + field;
    }

    private static int chargeAt(int read, int field) {
        return read * MOST_FIELDS + field;
    }

    private static int previewAt(int reader, int set) {
        return reader * MOST_SETS + set;
    }

    /** The SETS, with the terms of their FIELDS and the ROWS of their VERSIONS. */
    private static final class Shelf {
        private int setCount = 0;
        private final int[] fields = new int[MOST_SETS];
        private final int[] versions = new int[MOST_SETS];
        private final int[] rows = new int[MOST_SETS * MOST_VERSIONS];
        private final int[] prices = new int[MOST_SETS * MOST_FIELDS];
        private final int[] rules = new int[MOST_SETS * MOST_FIELDS];

        int addSet(int fieldCount) {
            int set = setCount;
            fields[set] = fieldCount;
            for (int field = 0; field < fieldCount; field++) {
                prices[fieldAt(set, field)] = FIRST_PRICE;
                rules[fieldAt(set, field)] = MOST_MISSING;
            }
            setCount++;
            return set;
        }

        int addVersion(int set, int rowCount) {
            int version = versions[set];
            rows[versionAt(set, version)] = rowCount;
            versions[set]++;
            return version;
        }

        boolean hasSet(int set) {
            return set >= 0 && set < setCount;
        }

        int allFields(int set) {
            return (1 << fields[set]) - 1;
        }

        int latestVersion(int set) {
            return versions[set] > 0 ? versions[set] - 1 : NONE;
        }

        int latestRows(int set) {
            int version = latestVersion(set);
            return version == NONE ? 0 : rows[versionAt(set, version)];
        }

        int allVersions() {
            int sum = 0;
            for (int set = 0; set < setCount; set++) {
                sum += versions[set];
            }
            return sum;
        }

        int fieldCharge(int set, int field, int rowCount, int tier) {
            return rowCount * prices[fieldAt(set, field)] * tier / 400;
        }
    }

    /** What is to be made of what (SOURCES), and what was made of what (links). */
    private static final class Lineage {
        private int sourceCount = 0;
        private final int[] sourceChildren = new int[MOST_SOURCES];
        private final int[] sourceParents = new int[MOST_SOURCES];
        private final int[] sourceShares = new int[MOST_SOURCES];
        private int linkCount = 0;
        private final int[] linkChildren = new int[MOST_LINKS];
        private final int[] linkParents = new int[MOST_LINKS];
        private final int[] linkShares = new int[MOST_LINKS];
        private final boolean[] reached = new boolean[PLACES];

        int findSource(int child, int parent) {
            for (int source = 0; source < sourceCount; source++) {
                if (sourceChildren[source] == child && sourceParents[source] == parent) {
                    return source;
                }
            }
            return NONE;
        }

        void addSource(int child, int parent, int share) {
            sourceChildren[sourceCount] = child;
            sourceParents[sourceCount] = parent;
            sourceShares[sourceCount] = share;
            sourceCount++;
        }

        int countSources(int child) {
            int found = 0;
            for (int source = 0; source < sourceCount; source++) {
                if (sourceChildren[source] == child) {
                    found++;
                }
            }
            return found;
        }

        void linkVersion(Shelf shelf, int set, int version) {
            for (int source = 0; source < sourceCount; source++) {
                int child = sourceChildren[source];
                int parent = sourceParents[source];
                int from = parent / MOST_FIELDS;
                int latest = shelf.latestVersion(from);
                if (child / MOST_FIELDS == set && latest != NONE) {
                    addLink(placeAt(set, version, child % MOST_FIELDS),
                            placeAt(from, latest, parent % MOST_FIELDS), sourceShares[source]);
                }
            }
        }

        private void addLink(int child, int parent, int share) {
            if (linkCount < MOST_LINKS) {
                linkChildren[linkCount] = child;
                linkParents[linkCount] = parent;
                linkShares[linkCount] = share;
                linkCount++;
            }
        }

        /** A parent's own links came ahead of its children's, so one way along all links is enough. */
        void carry(int[] harm) {
            for (int link = 0; link < linkCount; link++) {
                int child = linkChildren[link];
                int carried = harm[linkParents[link]] * linkShares[link] / 100;
                harm[child] = Math.max(harm[child], carried);
            }
        }

        /** Back along all links, for the same reason. */
        boolean leadsTo(int start, int goal) {
            for (int place = 0; place < PLACES; place++) {
                reached[place] = place == start;
            }
            for (int link = linkCount - 1; link >= 0; link--) {
                if (reached[linkChildren[link]]) {
                    reached[linkParents[link]] = true;
                }
            }
            return start != goal && reached[goal];
        }
    }

    /** The HARM at each place, that is each FIELD of each VERSION. */
    private static final class Harms {
        /** What was REPORTED, or seen by a RULE, of the place itself. */
        private final int[] own = new int[PLACES];
        private final boolean[] told = new boolean[PLACES];
        private final int[] now = new int[PLACES];
        private final int[] trial = new int[PLACES];

        void raise(int place, int harm) {
            own[place] = Math.max(own[place], harm);
        }

        void settle(Lineage lineage) {
            copyOwn(now);
            lineage.carry(now);
        }

        /** Answers what all HARM would be; the row is good until the next trial. */
        int[] tryRaise(int place, int harm, Lineage lineage) {
            copyOwn(trial);
            trial[place] = Math.max(trial[place], harm);
            lineage.carry(trial);
            return trial;
        }

        private void copyOwn(int[] into) {
            for (int place = 0; place < PLACES; place++) {
                into[place] = own[place];
            }
        }
    }

    private static final class Contracts {
        private int count = 0;
        private final int[] readers = new int[MOST_CONTRACTS];
        private final int[] sets = new int[MOST_CONTRACTS];
        private final int[] fields = new int[MOST_CONTRACTS];
        private final int[] purposes = new int[MOST_CONTRACTS];
        private final int[] firstDays = new int[MOST_CONTRACTS];
        private final int[] lastDays = new int[MOST_CONTRACTS];

        int add(int reader, int set, int fieldSet, int purposeSet, int from, int to) {
            int contract = count;
            readers[contract] = reader;
            sets[contract] = set;
            fields[contract] = fieldSet;
            purposes[contract] = purposeSet;
            firstDays[contract] = from;
            lastDays[contract] = to;
            count++;
            return contract;
        }

        /** Answers how many DAYS fall away; one that had not begun is left with a last DAY below its first. */
        int cut(int contract, int day) {
            int first = Math.max(firstDays[contract], day + 1);
            int lost = Math.max(lastDays[contract] - first + 1, 0);
            lastDays[contract] = Math.min(lastDays[contract], day);
            return lost;
        }

        boolean isOn(int contract, int day) {
            return firstDays[contract] <= day && day <= lastDays[contract];
        }

        boolean isFor(int contract, int reader, int set, int purposeSet, int day) {
            return readers[contract] == reader && sets[contract] == set
                    && (purposes[contract] & purposeSet) != 0 && isOn(contract, day);
        }

        /** The FIELDS that are COVERED for one of the PURPOSES, by other CONTRACTS than that left out. */
        int open(int reader, int set, int purposeSet, int day, int leftOut) {
            int open = 0;
            for (int contract = 0; contract < count; contract++) {
                if (contract != leftOut && isFor(contract, reader, set, purposeSet, day)) {
                    open |= fields[contract];
                }
            }
            return open;
        }

        int countOpen(int reader, int day) {
            int found = 0;
            for (int contract = 0; contract < count; contract++) {
                if (readers[contract] == reader && isOn(contract, day)) {
                    found++;
                }
            }
            return found;
        }
    }

    /** The READS; where one asks for those of a READER or a SET, NONE stands for all. */
    private static final class Reads {
        private int count = 0;
        private final int[] readers = new int[MOST_READS];
        private final int[] sets = new int[MOST_READS];
        private final int[] versions = new int[MOST_READS];
        private final int[] fields = new int[MOST_READS];
        private final int[] rows = new int[MOST_READS];
        private final int[] purposes = new int[MOST_READS];
        private final int[] days = new int[MOST_READS];
        private final int[] tiers = new int[MOST_READS];
        private final int[] billed = new int[MOST_READS];
        private final int[] charges = new int[MOST_READS * MOST_FIELDS];

        int add(int reader, int set, int version, int fieldSet, int rowCount, int purpose, int day) {
            int read = count;
            tiers[read] = tier(reader, day);
            readers[read] = reader;
            sets[read] = set;
            versions[read] = version;
            fields[read] = fieldSet;
            rows[read] = rowCount;
            purposes[read] = purpose;
            days[read] = day;
            count++;
            return read;
        }

        int tier(int reader, int day) {
            int units = unitsInPeriod(reader, day);
            if (units >= 20000) {
                return 2;
            }
            return units >= 5000 ? 3 : 4;
        }

        int unitsOf(int read) {
            return rows[read] * Integer.bitCount(fields[read]);
        }

        int unitsInPeriod(int reader, int day) {
            int sum = 0;
            for (int read = 0; read < count; read++) {
                if (readers[read] == reader && days[read] / PERIOD_DAYS == day / PERIOD_DAYS) {
                    sum += unitsOf(read);
                }
            }
            return sum;
        }

        int chargeOf(int read) {
            int sum = 0;
            for (int field = 0; field < MOST_FIELDS; field++) {
                sum += charges[chargeAt(read, field)];
            }
            return sum;
        }

        int creditOf(int read, int[] harm) {
            int sum = 0;
            for (int field = 0; field < MOST_FIELDS; field++) {
                int place = placeAt(sets[read], versions[read], field);
                sum += charges[chargeAt(read, field)] * harm[place] / 100;
            }
            return sum;
        }

        int worthOf(int read, int[] harm) {
            return chargeOf(read) - creditOf(read, harm);
        }

        private boolean isOf(int read, int reader, int set) {
            return (reader == NONE || readers[read] == reader) && (set == NONE || sets[read] == set);
        }

        int count(int reader, int set) {
            int found = 0;
            for (int read = 0; read < count; read++) {
                if (isOf(read, reader, set)) {
                    found++;
                }
            }
            return found;
        }

        int charge(int reader, int set) {
            int sum = 0;
            for (int read = 0; read < count; read++) {
                if (isOf(read, reader, set)) {
                    sum += chargeOf(read);
                }
            }
            return sum;
        }

        int credit(int reader, int set, int[] harm) {
            int sum = 0;
            for (int read = 0; read < count; read++) {
                if (isOf(read, reader, set)) {
                    sum += creditOf(read, harm);
                }
            }
            return sum;
        }

        int billedTo(int reader) {
            int sum = 0;
            for (int read = 0; read < count; read++) {
                if (isOf(read, reader, NONE)) {
                    sum += billed[read];
                }
            }
            return sum;
        }

        int due(int reader, int[] harm) {
            int sum = 0;
            for (int read = 0; read < count; read++) {
                if (isOf(read, reader, NONE)) {
                    sum += worthOf(read, harm) - billed[read];
                }
            }
            return sum;
        }

        void settle(int reader, int[] harm) {
            for (int read = 0; read < count; read++) {
                if (isOf(read, reader, NONE)) {
                    billed[read] = worthOf(read, harm);
                }
            }
        }
    }
}
