import java.util.ArrayList;
import java.util.List;
import java.util.function.LongSupplier;

/**
 * All promises together: long runs of calls, each answered by the class and by NaiveVault. The
 * calls come from a row of numbers that is always the same.
 */
public final class ModelTest {
    private static final int RUNS = 300;
    private static final int MOST_CALLS = 512;
    private static final Check CHECK = new Check("model");
    private static final String NO_SUCH = "IndexOutOfBoundsException";
    private static final String OUT_OF_RANGE = "IllegalArgumentException";
    private static final String NOT_NOW = "IllegalStateException";

    private final FormatVault vault = new FormatVault();
    private final NaiveVault model = new NaiveVault();
    private final List<String> story = new ArrayList<>();
    private final int formats;
    private final int converters;
    private final int greatestLoss;
    private final int greatestCost;
    private long seed;
    private int calls;
    private boolean isWrong;

    private ModelTest(int run) {
        seed = run * 7919L + 17;
        formats = 2 + number(9);
        converters = 1 + number(14);
        greatestLoss = new int[] {0, 3, 12, 500}[number(4)];
        greatestCost = new int[] {0, 2, 9, 100}[number(4)];
    }

    public static void main(String[] args) {
        for (int run = 0; run < RUNS; run++) {
            new ModelTest(run).run();
        }
        CHECK.end();
    }

    private int number(int below) {
        seed = seed * 6364136223846793005L + 1442695040888963407L;
        return (int) ((seed >>> 33) % below);
    }

    /** Mostly a right one; of forty one is just outside. */
    private int argument(int lowest, int greatest) {
        int kind = number(80);
        if (kind < 2) {
            return kind == 0 ? lowest - 1 : greatest + 1;
        }
        return lowest + number(greatest - lowest + 1);
    }

    private int format() {
        return number(60) == 0 ? argument(-3, 12) : number(formats);
    }

    private int file() {
        return argument(0, Math.max(0, model.items.size() - 1));
    }

    private void run() {
        while (calls < MOST_CALLS && !isWrong) {
            switch (number(10)) {
                case 0 -> callFormats();
                case 1, 2 -> callConverters();
                case 3 -> callWays();
                case 4 -> callFile();
                case 5, 6 -> callFiles();
                case 7 -> callHavens();
                case 8 -> callPromise();
                default -> callYears();
            }
        }
    }

    private void compare(String call, String refusal, LongSupplier answer, LongSupplier due) {
        calls++;
        String got;
        try {
            got = Long.toString(answer.getAsLong());
        } catch (RuntimeException e) {
            got = e.getClass().getSimpleName();
        }
        String want = refusal == null ? Long.toString(due.getAsLong()) : refusal;
        story.add(call + " = " + want);
        CHECK.same(call, got, want);
        if (!got.equals(want)) {
            isWrong = true;
            story.forEach(System.out::println);
        }
    }

    private static boolean isIn(int value, int lowest, int greatest) {
        return value >= lowest && value <= greatest;
    }

    private String none(boolean isSuch, boolean isInRange, LongSupplier isNow) {
        if (!isSuch) {
            return NO_SUCH;
        }
        if (!isInRange) {
            return OUT_OF_RANGE;
        }
        return isNow.getAsLong() == 0 ? NOT_NOW : null;
    }

    private static long bit(boolean value) {
        return value ? 1 : 0;
    }

    private void callFormats() {
        int format = format();
        int last = number(3) == 0 ? -1 : model.year + number(20) - (number(9) == 0 ? 3 : 0);
        last = number(50) == 0 ? 999 + number(4) : last;
        int to = last;
        String refusal = none(isIn(format, 0, 9), to == -1 || isIn(to, model.year, 1000),
                () -> bit(model.canBeRead(format)));
        compare("setLast(" + format + ", " + to + ")", refusal, () -> vault.setLast(format, to),
                () -> {
                    int before = model.last[format];
                    model.last[format] = to;
                    return before;
                });
        callLaw();
    }

    private void callLaw() {
        int law = argument(0, 4);
        int years = number(20) == 0 ? argument(1, 100) : 1 + number(15);
        int least = number(3) == 0 ? argument(0, 1000) : 1000 - number(2 * greatestLoss + 1);
        int reads = number(20) == 0 ? argument(1, 50) : 1 + number(6);
        boolean isInRange = isIn(years, 1, 100) && isIn(least, 0, 1000) && isIn(reads, 1, 50);
        compare("law(" + law + ", " + years + ", " + least + ", " + reads + ")",
                none(isIn(law, 0, 4), isInRange, () -> 1),
                () -> {
                    vault.law(law, years, least, reads);
                    return 0;
                }, () -> {
                    model.laws[law] = new int[] {years, least, reads};
                    return 0;
                });
    }

    /** So few ways that the model can go through all of them, but at last up to 30 converters. */
    private void callConverters() {
        long live = model.steps.stream().filter(step -> !step.isWithdrawn).count();
        if (live >= converters || number(6) == 0) {
            callWithdraw();
            return;
        }
        int from = format();
        int to = format();
        int loss = argument(0, greatestLoss);
        int cost = argument(0, greatestCost);
        boolean isInRange = isIn(loss, 0, 500) && isIn(cost, 0, 100) && from != to;
        String refusal = none(isIn(from, 0, 9) && isIn(to, 0, 9), isInRange,
                () -> bit(model.steps.size() < 30));
        compare("converter(" + from + ", " + to + ", " + loss + ", " + cost + ")", refusal,
                () -> vault.converter(from, to, loss, cost), () -> {
                    NaiveVault.Step step = new NaiveVault.Step();
                    step.number = model.steps.size();
                    step.from = from;
                    step.to = to;
                    step.loss = loss;
                    step.cost = cost;
                    model.steps.add(step);
                    return step.number;
                });
    }

    private void callWithdraw() {
        int number = argument(0, Math.max(0, model.steps.size() - 1));
        String refusal = none(isIn(number, 0, model.steps.size() - 1), true,
                () -> bit(!model.steps.get(number).isWithdrawn));
        compare("withdraw(" + number + ")", refusal, () -> vault.withdraw(number),
                () -> model.withdraw(number));
    }

    private void callWays() {
        int from = format();
        int to = format();
        int place = number(5) - (number(20) == 0 ? 1 : 0);
        String way = "(" + from + ", " + to;
        String refusal = none(isIn(from, 0, 9) && isIn(to, 0, 9), true, () -> 1);
        List<NaiveVault.Step> best = refusal == null ? model.bestWay(from, to) : null;
        LongSupplier quality = () -> best == null ? -1 : NaiveVault.along(best, 1000);
        compare("quality" + way + ")", refusal, () -> vault.quality(from, to), quality);
        compare("qualityByAll" + way + ")", refusal, () -> vault.qualityByAll(from, to), quality);
        compare("cost" + way + ")", refusal, () -> vault.cost(from, to),
                () -> best == null ? -1 : NaiveVault.costOf(best));
        compare("stepAt" + way + ", " + place + ")", place < 0 ? NO_SUCH : refusal,
                () -> vault.stepAt(from, to, place),
                () -> best == null || place >= best.size() ? -1 : best.get(place).number);
    }

    private void callFile() {
        int format = format();
        int size = number(10) == 0 ? argument(1, 100) : 1 + number(20);
        int law = argument(0, 4);
        String refusal = none(isIn(format, 0, 9) && isIn(law, 0, 4), isIn(size, 1, 100),
                () -> bit(model.items.size() < 40 && model.canBeRead(format)));
        compare("file(" + format + ", " + size + ", " + law + ")", refusal,
                () -> vault.file(format, size, law), () -> {
                    NaiveVault.Item item = new NaiveVault.Item();
                    item.format = format;
                    item.size = size;
                    item.law = law;
                    item.end = model.year + model.laws[law][0];
                    item.lastRead = model.year;
                    model.items.add(item);
                    return model.items.size() - 1;
                });
    }

    private NaiveVault.Item item(int file) {
        return isIn(file, 0, model.items.size() - 1) ? model.items.get(file) : null;
    }

    private void callFiles() {
        int file = file();
        NaiveVault.Item item = item(file);
        boolean isKept = item != null && item.state == 0;
        boolean isHeld = number(2) == 0;
        compare("hold(" + file + ", " + isHeld + ")", none(item != null, true, () -> bit(isKept)),
                () -> bit(vault.hold(file, isHeld)), () -> {
                    boolean changes = item.isHeld != isHeld;
                    item.isHeld = isHeld;
                    return bit(changes);
                });
        if (number(3) == 0) {
            callRead();
        }
        if (number(2) == 0) {
            callMove();
        }
    }

    private void callRead() {
        int file = file();
        NaiveVault.Item item = item(file);
        compare("read(" + file + ")", none(item != null, true, () -> bit(item.state == 0
                && model.canBeRead(item.format) && item.quality >= model.laws[item.law][1])),
                () -> vault.read(file), () -> {
                    int before = item.lastRead;
                    item.lastRead = model.year;
                    return model.year - before;
                });
    }

    private void callMove() {
        int file = file();
        int format = format();
        NaiveVault.Item item = item(file);
        boolean isSuch = item != null && isIn(format, 0, 9);
        compare("move(" + file + ", " + format + ")",
                none(isSuch, isSuch && item.format != format, () -> bit(item.state == 0
                        && model.canBeRead(format) && model.bestWay(item.format, format) != null
                        && model.canPay(item, format))),
                () -> vault.move(file, format), () -> model.moveOne(item, format));
    }

    private void callHavens() {
        int file = file();
        NaiveVault.Item item = item(file);
        String refusal = item == null ? NO_SUCH : null;
        compare("haven(" + file + ")", refusal, () -> vault.haven(file),
                () -> model.havenOf(item));
        compare("isSafe(" + file + ")", refusal, () -> bit(vault.isSafe(file)),
                () -> bit(item.state == 0 && model.isSafeIn(item, item.format)));
        compare("stateOf(" + file + ")", refusal, () -> vault.stateOf(file), () -> item.state);
        compare("formatOf(" + file + ")", refusal, () -> vault.formatOf(file), () -> item.format);
        compare("qualityOf(" + file + ")", refusal, () -> vault.qualityOf(file),
                () -> item.quality);
        compare("endOf(" + file + ")", refusal, () -> vault.endOf(file), () -> item.end);
    }

    private void callPromise() {
        int format = format();
        int law = argument(0, 4);
        compare("promise(" + format + ", " + law + ")",
                none(isIn(format, 0, 9) && isIn(law, 0, 4), true, () -> 1),
                () -> vault.promise(format, law), () -> model.promise(format, law));
        compare("overdue()", null, vault::overdue, model::overdue);
    }

    private void callYears() {
        if (number(2) == 0) {
            compare("moveAhead()", null, vault::moveAhead, model::moveAhead);
        }
        if (number(3) == 0) {
            int budget = number(9) == 0 ? argument(0, 1000000) : number(300);
            compare("setBudget(" + budget + ")", isIn(budget, 0, 1000000) ? null : OUT_OF_RANGE,
                    () -> vault.setBudget(budget), () -> {
                        int before = model.budget;
                        model.budget = budget;
                        return before;
                    });
        }
        compare("left()", null, vault::left, () -> model.left);
        if (number(3) == 0) {
            compare("begin()", null, vault::begin, model::begin);
            compare("year()", null, vault::year, () -> model.year);
        }
    }
}
