import java.util.function.LongSupplier;

/** The calls of the document by numbers, on the class and on the model; a boolean counts 1 or 0. */
final class Calls {
    static final int SET = 0;
    static final int TERMS = 1;
    static final int SOURCE = 2;
    static final int VERSION = 3;
    static final int MISSING = 4;
    static final int REPORT = 5;
    static final int HARM = 6;
    static final int OF_SET = 7;
    static final int IS_MADE_OF = 8;
    static final int CONTRACT = 9;
    static final int END = 10;
    static final int COVERED = 11;
    static final int READ = 12;
    static final int PREVIEW = 13;
    static final int OF_READ = 14;
    static final int OF_READER = 15;
    static final int BILL = 16;
    static final int PASS = 17;
    static final int MANY = 18;
    static final int QUOTE = 19;
    static final int MEAN_WORTH = 20;
    static final int CREDIT_BY = 21;
    static final int NEEDED_BY = 22;
    static final int PREVIEWS = 23;
    static final int DIGEST = 24;
    static final int KINDS = 25;

    private Calls() { }

    /** The answer, or the name of the very exception. */
    static String outcome(LongSupplier call) {
        try {
            return Long.toString(call.getAsLong());
        } catch (RuntimeException thrown) {
            return thrown.getClass().getName();
        }
    }

    static boolean isRefusal(String outcome) {
        return outcome.startsWith("java");
    }

    static long onDesk(DatamarketDesk desk, int kind, int[] a) {
        switch (kind) {
            case SET: return desk.set(a[0]);
            case TERMS: return desk.terms(a[0], a[1], a[2], a[3]);
            case SOURCE: return desk.source(a[0], a[1], a[2], a[3], a[4]);
            case VERSION: return desk.version(a[0], a[1]);
            case MISSING: return desk.missing(a[0], a[1], a[2]);
            case REPORT: return desk.report(a[0], a[1], a[2], a[3]);
            case HARM: return desk.harm(a[0], a[1], a[2]);
            case OF_SET: return desk.ofSet(a[0], a[1]);
            case IS_MADE_OF: return desk.isMadeOf(a[0], a[1], a[2], a[3], a[4], a[5]) ? 1 : 0;
            case CONTRACT: return desk.contract(a[0], a[1], a[2], a[3], a[4], a[5]);
            case END: return desk.end(a[0]);
            case COVERED: return desk.covered(a[0], a[1], a[2], a[3]);
            case READ: return desk.read(a[0], a[1], a[2], a[3], a[4]);
            case PREVIEW: return desk.preview(a[0], a[1], a[2]);
            case OF_READ: return desk.ofRead(a[0], a[1]);
            case OF_READER: return desk.ofReader(a[0], a[1]);
            case BILL: return desk.bill(a[0]);
            case PASS: return desk.pass(a[0]);
            case MANY: return desk.many(a[0]);
            case QUOTE: return desk.quote(a[0], a[1], a[2], a[3]);
            case MEAN_WORTH: return Double.doubleToLongBits(desk.meanWorth());
            case CREDIT_BY: return desk.creditBy(a[0], a[1], a[2], a[3]);
            case NEEDED_BY: return desk.neededBy(a[0]);
            case PREVIEWS: return desk.previews(a[0], a[1]);
            default: return desk.digest();
        }
    }

    static long onModel(Model model, int kind, int[] a) {
        switch (kind) {
            case SET: return model.set(a[0]);
            case TERMS: return model.terms(a[0], a[1], a[2], a[3]);
            case SOURCE: return model.source(a[0], a[1], a[2], a[3], a[4]);
            case VERSION: return model.version(a[0], a[1]);
            case MISSING: return model.missing(a[0], a[1], a[2]);
            case REPORT: return model.report(a[0], a[1], a[2], a[3]);
            case HARM: return model.harm(a[0], a[1], a[2]);
            case OF_SET: return model.ofSet(a[0], a[1]);
            case IS_MADE_OF: return model.isMadeOf(a[0], a[1], a[2], a[3], a[4], a[5]) ? 1 : 0;
            case CONTRACT: return model.contract(a[0], a[1], a[2], a[3], a[4], a[5]);
            case END: return model.end(a[0]);
            case COVERED: return model.covered(a[0], a[1], a[2], a[3]);
            case READ: return model.read(a[0], a[1], a[2], a[3], a[4]);
            case PREVIEW: return model.preview(a[0], a[1], a[2]);
            case OF_READ: return model.ofRead(a[0], a[1]);
            case OF_READER: return model.ofReader(a[0], a[1]);
            case BILL: return model.bill(a[0]);
            case PASS: return model.pass(a[0]);
            case MANY: return model.many(a[0]);
            case QUOTE: return model.quote(a[0], a[1], a[2], a[3]);
            case MEAN_WORTH: return Double.doubleToLongBits(model.meanWorth());
            case CREDIT_BY: return model.creditBy(a[0], a[1], a[2], a[3]);
            case NEEDED_BY: return model.neededBy(a[0]);
            case PREVIEWS: return model.previews(a[0], a[1]);
            default: return model.digest();
        }
    }
}
