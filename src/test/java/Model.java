import java.util.ArrayList;
import java.util.HashSet;
import java.util.LinkedHashMap;
import java.util.List;
import java.util.Map;
import java.util.Set;
import java.util.TreeSet;

/** The document once more, as plainly as can be and in another form than the class, to compare it with. */
final class Model {
    private static final class Field {
        final int set;
        final int number;
        int price = 10;
        int rule = 1000;
        final Map<Field, Integer> sources = new LinkedHashMap<>();

        Field(int set, int number) {
            this.set = set;
            this.number = number;
        }
    }

    /** A FIELD of a VERSION. */
    private static final class Cell {
        final List<Integer> reported = new ArrayList<>();
        int missing = 0;
        int rule = 1000;
        boolean told = false;
        final Map<Cell, Integer> madeOf = new LinkedHashMap<>();

        int harm() {
            int harm = 0;
            for (int one : reported) {
                harm = Math.max(harm, one);
            }
            if (missing > rule) {
                harm = Math.max(harm, (missing - rule) / 10);
            }
            for (Map.Entry<Cell, Integer> one : madeOf.entrySet()) {
                harm = Math.max(harm, one.getKey().harm() * one.getValue() / 100);
            }
            return harm;
        }

        boolean isMadeOf(Cell other) {
            for (Cell one : madeOf.keySet()) {
                if (one == other || one.isMadeOf(other)) {
                    return true;
                }
            }
            return false;
        }
    }

    private record Version(int rows, List<Cell> cells) { }

    private static final class DataSet {
        final List<Field> fields = new ArrayList<>();
        final List<Version> versions = new ArrayList<>();
        final Map<Integer, Set<Integer>> previewed = new LinkedHashMap<>();

        Set<Integer> seenBy(int reader) {
            return previewed.getOrDefault(reader, Set.of());
        }
    }

    private static final class Contract {
        int reader;
        int set;
        Set<Integer> fields;
        Set<Integer> purposes;
        final Set<Integer> days = new TreeSet<>();
    }

    private static final class Read {
        int reader;
        int set;
        int version;
        int fields;
        int rows;
        int day;
        int tier;
        int purpose;
        int billed = 0;
        final Map<Cell, Integer> charges = new LinkedHashMap<>();

        int units() {
            return rows * membersOf(fields).size();
        }

        int charge() {
            return charges.values().stream().mapToInt(Integer::intValue).sum();
        }

        int credit() {
            return charges.entrySet().stream().mapToInt(one -> one.getValue() * one.getKey().harm() / 100).sum();
        }
    }

    private final List<DataSet> sets = new ArrayList<>();
    private final List<Contract> contracts = new ArrayList<>();
    private final List<Read> reads = new ArrayList<>();
    private int day = 0;

    private static Set<Integer> membersOf(int mask) {
        Set<Integer> members = new TreeSet<>();
        for (int member = 0; member < 31; member++) {
            if ((mask >>> member) % 2 == 1) {
                members.add(member);
            }
        }
        return members;
    }

    private static int maskOf(Set<Integer> members) {
        int mask = 0;
        for (int member : members) {
            mask += 1 << member;
        }
        return mask;
    }

    private static void there(boolean so) {
        if (!so) {
            throw new IndexOutOfBoundsException();
        }
    }

    private static void argument(boolean so) {
        if (!so) {
            throw new IllegalArgumentException();
        }
    }

    private static void state(boolean so) {
        if (!so) {
            throw new IllegalStateException();
        }
    }

    private static boolean in(int number, int from, int to) {
        return from <= number && number <= to;
    }

    private DataSet setThere(int set) {
        there(in(set, 0, sets.size() - 1));
        return sets.get(set);
    }

    private Field fieldThere(int set, int field) {
        DataSet of = setThere(set);
        there(in(field, 0, of.fields.size() - 1));
        return of.fields.get(field);
    }

    private Cell cellThere(int set, int version, int field) {
        fieldThere(set, field);
        DataSet of = sets.get(set);
        there(in(version, 0, of.versions.size() - 1));
        return of.versions.get(version).cells.get(field);
    }

    private void fieldsArgument(int set, int fields) {
        argument(fields >= 1);
        for (int field : membersOf(fields)) {
            argument(field < sets.get(set).fields.size());
        }
    }

    int set(int fields) {
        argument(in(fields, 1, 6));
        state(sets.size() != 8);
        DataSet set = new DataSet();
        for (int field = 0; field < fields; field++) {
            set.fields.add(new Field(sets.size(), field));
        }
        sets.add(set);
        return sets.size() - 1;
    }

    int terms(int set, int field, int price, int rule) {
        Field of = fieldThere(set, field);
        argument(in(price, 1, 99) && in(rule, 0, 1000));
        int before = of.price;
        of.price = price;
        of.rule = rule;
        return before;
    }

    int source(int set, int field, int from, int source, int share) {
        Field child = fieldThere(set, field);
        Field parent = fieldThere(from, source);
        argument(from < set && in(share, 1, 100));
        state(child.sources.containsKey(parent) || many(2) != 20);
        child.sources.put(parent, share);
        return child.sources.size();
    }

    int version(int set, int rows) {
        DataSet of = setThere(set);
        argument(in(rows, 1, 9999));
        state(of.versions.size() != 6);
        Version version = new Version(rows, new ArrayList<>());
        for (Field field : of.fields) {
            Cell cell = new Cell();
            for (Map.Entry<Field, Integer> one : field.sources.entrySet()) {
                List<Version> versions = sets.get(one.getKey().set).versions;
                if (!versions.isEmpty()) {
                    Version latest = versions.get(versions.size() - 1);
                    cell.madeOf.put(latest.cells.get(one.getKey().number), one.getValue());
                }
            }
            version.cells.add(cell);
        }
        of.versions.add(version);
        return of.versions.size() - 1;
    }

    int missing(int set, int field, int missing) {
        Field of = fieldThere(set, field);
        argument(in(missing, 0, 1000));
        List<Version> versions = sets.get(set).versions;
        state(!versions.isEmpty());
        Cell cell = versions.get(versions.size() - 1).cells.get(field);
        state(!cell.told);
        cell.told = true;
        cell.missing = missing;
        cell.rule = of.rule;
        return cell.harm();
    }

    int report(int set, int version, int field, int harm) {
        Cell cell = cellThere(set, version, field);
        argument(in(harm, 1, 100));
        int before = many(6);
        cell.reported.add(harm);
        return many(6) - before;
    }

    int harm(int set, int version, int field) {
        return cellThere(set, version, field).harm();
    }

    int ofSet(int set, int what) {
        DataSet of = setThere(set);
        argument(in(what, 0, 6));
        Version latest = of.versions.isEmpty() ? new Version(0, List.of()) : of.versions.get(of.versions.size() - 1);
        List<Read> its = reads.stream().filter(read -> read.set == set).toList();
        return switch (what) {
            case 0 -> of.fields.size();
            case 1 -> of.versions.size();
            case 2 -> latest.rows;
            case 3 -> (int) latest.cells.stream().filter(cell -> cell.harm() > 0).count();
            case 4 -> its.size();
            case 5 -> its.stream().mapToInt(Read::charge).sum();
            default -> its.stream().mapToInt(Read::credit).sum();
        };
    }

    boolean isMadeOf(int set, int version, int field, int from, int other, int source) {
        return cellThere(set, version, field).isMadeOf(cellThere(from, other, source));
    }

    int contract(int reader, int set, int fields, int purposes, int from, int to) {
        there(in(reader, 0, 5));
        setThere(set);
        fieldsArgument(set, fields);
        argument(in(purposes, 1, 15) && from >= day && to >= from && to <= 359);
        state(contracts.size() != 16);
        Contract contract = new Contract();
        contract.reader = reader;
        contract.set = set;
        contract.fields = membersOf(fields);
        contract.purposes = membersOf(purposes);
        for (int one = from; one <= to; one++) {
            contract.days.add(one);
        }
        contracts.add(contract);
        return contracts.size() - 1;
    }

    int end(int contract) {
        there(in(contract, 0, contracts.size() - 1));
        Set<Integer> days = contracts.get(contract).days;
        int before = days.size();
        days.removeIf(one -> one > day);
        return before - days.size();
    }

    private Set<Contract> covering(int reader, int set, int field, int purpose, int on) {
        Set<Contract> found = new HashSet<>();
        for (Contract one : contracts) {
            if (one.reader == reader && one.set == set && one.fields.contains(field)
                    && one.purposes.contains(purpose) && one.days.contains(on)) {
                found.add(one);
            }
        }
        return found;
    }

    int covered(int reader, int set, int purpose, int on) {
        there(in(reader, 0, 5));
        DataSet of = setThere(set);
        there(in(purpose, 0, 3));
        argument(in(on, 0, 359));
        Set<Integer> fields = new TreeSet<>();
        for (int field = 0; field < of.fields.size(); field++) {
            if (!covering(reader, set, field, purpose, on).isEmpty()) {
                fields.add(field);
            }
        }
        return maskOf(fields);
    }

    private int tier(int reader) {
        int units = ofReader(reader, 0);
        return units < 5000 ? 4 : units < 20000 ? 3 : 2;
    }

    int read(int reader, int set, int fields, int rows, int purpose) {
        there(in(reader, 0, 5));
        DataSet of = setThere(set);
        there(in(purpose, 0, 3));
        fieldsArgument(set, fields);
        argument(rows >= 1);
        state(reads.size() != 40);
        state(!of.versions.isEmpty());
        Version latest = of.versions.get(of.versions.size() - 1);
        state(rows <= latest.rows);
        for (int field : membersOf(fields)) {
            state(!covering(reader, set, field, purpose, day).isEmpty());
        }
        Read read = new Read();
        read.reader = reader;
        read.set = set;
        read.version = of.versions.size() - 1;
        read.fields = fields;
        read.rows = rows;
        read.day = day;
        read.tier = tier(reader);
        read.purpose = purpose;
        for (int field : membersOf(fields)) {
            read.charges.put(latest.cells.get(field), rows * of.fields.get(field).price * read.tier / 400);
        }
        reads.add(read);
        return read.charge();
    }

    private boolean mayPreview(int reader, int set, Set<Integer> fields) {
        DataSet of = sets.get(set);
        int all = of.fields.size();
        Set<Integer> seen = new TreeSet<>(of.seenBy(reader));
        seen.addAll(fields);
        if (2 * seen.size() > all + all % 2) {
            return false;
        }
        Set<Integer> open = new TreeSet<>();
        for (int purpose = 0; purpose < 4; purpose++) {
            open.addAll(membersOf(covered(reader, set, purpose, day)));
        }
        if (open.size() == all) {
            return true;
        }
        open.addAll(seen);
        return open.size() != all;
    }

    int preview(int reader, int set, int fields) {
        there(in(reader, 0, 5));
        DataSet of = setThere(set);
        fieldsArgument(set, fields);
        argument(membersOf(fields).size() <= 2);
        state(!of.versions.isEmpty());
        state(mayPreview(reader, set, membersOf(fields)));
        of.previewed.computeIfAbsent(reader, one -> new TreeSet<>()).addAll(membersOf(fields));
        return maskOf(of.seenBy(reader));
    }

    int ofRead(int read, int what) {
        there(in(read, 0, reads.size() - 1));
        argument(in(what, 0, 11));
        Read of = reads.get(read);
        return new int[] {of.reader, of.set, of.version, of.fields, of.rows, of.day, of.units(), of.tier,
            of.charge(), of.credit(), of.billed, of.purpose}[what];
    }

    int ofReader(int reader, int what) {
        there(in(reader, 0, 5));
        argument(in(what, 0, 6));
        List<Read> its = reads.stream().filter(read -> read.reader == reader).toList();
        return switch (what) {
            case 0 -> its.stream().filter(read -> read.day / 30 == day / 30).mapToInt(Read::units).sum();
            case 1 -> its.size();
            case 2 -> its.stream().mapToInt(Read::charge).sum();
            case 3 -> its.stream().mapToInt(Read::credit).sum();
            case 4 -> its.stream().mapToInt(read -> read.billed).sum();
            case 5 -> its.stream().mapToInt(read -> read.charge() - read.credit() - read.billed).sum();
            default -> (int) contracts.stream().filter(one -> one.reader == reader && one.days.contains(day)).count();
        };
    }

    int bill(int reader) {
        there(in(reader, 0, 5));
        int bill = 0;
        for (Read read : reads) {
            if (read.reader == reader) {
                int paid = read.charge() - read.credit() - read.billed;
                read.billed += paid;
                bill += paid;
            }
        }
        return bill;
    }

    int pass(int days) {
        argument(in(days, 1, 30));
        state(day + days <= 359);
        day += days;
        return day;
    }

    int many(int what) {
        argument(in(what, 0, 8));
        return switch (what) {
            case 0 -> sets.size();
            case 1 -> sets.stream().mapToInt(set -> set.versions.size()).sum();
            case 2 -> sets.stream().flatMap(set -> set.fields.stream()).mapToInt(field -> field.sources.size()).sum();
            case 3 -> contracts.size();
            case 4 -> reads.size();
            case 5 -> reads.stream().mapToInt(Read::charge).sum();
            case 6 -> reads.stream().mapToInt(Read::credit).sum();
            case 7 -> reads.stream().mapToInt(read -> read.billed).sum();
            default -> day;
        };
    }

    double meanWorth() {
        double worth = 0;
        for (Read read : reads) {
            worth += read.charge() - read.credit();
        }
        return reads.isEmpty() ? 0 : worth / reads.size();
    }

    int quote(int reader, int set, int fields, int rows) {
        there(in(reader, 0, 5));
        DataSet of = setThere(set);
        fieldsArgument(set, fields);
        argument(in(rows, 1, 9999));
        return membersOf(fields).stream().mapToInt(field -> rows * of.fields.get(field).price * tier(reader) / 400).sum();
    }

    int creditBy(int set, int version, int field, int harm) {
        int gain = report(set, version, field, harm);
        List<Integer> reported = cellThere(set, version, field).reported;
        reported.remove(reported.size() - 1);
        return gain;
    }

    int previews(int reader, int set) {
        there(in(reader, 0, 5));
        DataSet of = setThere(set);
        int possible = 0;
        for (int one = 0; one < of.fields.size() && !of.versions.isEmpty(); one++) {
            for (int other = one; other < of.fields.size(); other++) {
                possible += mayPreview(reader, set, new TreeSet<>(List.of(one, other))) ? 1 : 0;
            }
        }
        return possible;
    }

    int neededBy(int contract) {
        there(in(contract, 0, contracts.size() - 1));
        Set<Contract> alone = Set.of(contracts.get(contract));
        int needed = 0;
        for (Read read : reads) {
            boolean needs = false;
            for (int field : membersOf(read.fields)) {
                needs |= covering(read.reader, read.set, field, read.purpose, read.day).equals(alone);
            }
            needed += needs ? 1 : 0;
        }
        return needed;
    }

    long digest() {
        List<Long> numbers = new ArrayList<>();
        for (int what = 0; what <= 8; what++) {
            numbers.add((long) many(what));
        }
        for (int set = 0; set < sets.size(); set++) {
            for (int what = 0; what <= 6; what++) {
                numbers.add((long) ofSet(set, what));
            }
            for (Version version : sets.get(set).versions) {
                for (Cell cell : version.cells) {
                    numbers.add((long) cell.harm());
                }
            }
        }
        for (int reader = 0; reader <= 5; reader++) {
            for (int what = 0; what <= 6; what++) {
                numbers.add((long) ofReader(reader, what));
            }
            for (int set = 0; set < sets.size(); set++) {
                numbers.add((long) covered(reader, set, 0, day));
                numbers.add((long) previews(reader, set));
            }
        }
        for (int read = 0; read < reads.size(); read++) {
            for (int what = 0; what <= 11; what++) {
                numbers.add((long) ofRead(read, what));
            }
        }
        for (int contract = 0; contract < contracts.size(); contract++) {
            numbers.add((long) neededBy(contract));
        }
        long digest = 58124;
        for (long number : numbers) {
            digest = digest * 31 + number;
        }
        return digest;
    }
}
