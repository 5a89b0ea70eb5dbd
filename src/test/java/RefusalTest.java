import java.util.function.Consumer;
import java.util.function.Supplier;

/**
 * Each exception that a method names, which one comes first where several apply, and that a call
 * that throws changes nothing: all that can be asked is answered as if it had not been made.
 */
public final class RefusalTest {
    private static final int NONE = FormatVault.NONE;
    private static final Check CHECK = new Check("refusals");

    private final String name;
    private final Supplier<FormatVault> archive;
    private final String image;

    private RefusalTest(String name, Supplier<FormatVault> archive) {
        this.name = name;
        this.archive = archive;
        image = Image.of(archive);
    }

    public static void main(String[] args) {
        RefusalTest busy = new RefusalTest("busy", Archives::busy);
        theImageShowsEachChange();
        busy.promise2();
        busy.promise3();
        busy.promise4();
        busy.promise5();
        busy.promises6To9();
        busy.promise10();
        busy.promises11And12();
        busy.promise13();
        busy.promises15To20();
        busy.promises21And26();
        busy.questionsChangeNothing();
        RefusalTest full = new RefusalTest("full", Archives::full);
        full.promise3ThirtyConverters();
        full.promise4ThirtyConverters();
        full.promise10FortyFiles();
        full.promises11To20FortyFiles();
        full.questionsChangeNothing();
        RefusalTest empty = new RefusalTest("new", FormatVault::new);
        empty.nothingThereYet();
        empty.questionsChangeNothing();
        new RefusalTest("last", () -> Archives.inYear(900)).promise23();
        CHECK.end();
    }

    // ---- how it is checked

    private void sameBehind(String call, Consumer<FormatVault> run) {
        String answers = Image.of(() -> {
            FormatVault vault = archive.get();
            try {
                run.accept(vault);
            } catch (IndexOutOfBoundsException | IllegalArgumentException
                    | IllegalStateException e) {
                return vault;
            }
            return vault;
        });
        CHECK.same(name + " archive is as it was behind " + call, answers.equals(image), true);
    }

    private void noSuch(String call, Consumer<FormatVault> run) {
        FormatVault vault = archive.get();
        CHECK.noSuch(call, () -> run.accept(vault));
        sameBehind(call, run);
    }

    private void outOfRange(String call, Consumer<FormatVault> run) {
        FormatVault vault = archive.get();
        CHECK.outOfRange(call, () -> run.accept(vault));
        sameBehind(call, run);
    }

    private void notNow(String call, Consumer<FormatVault> run) {
        FormatVault vault = archive.get();
        CHECK.notNow(call, () -> run.accept(vault));
        sameBehind(call, run);
    }

    private static void shows(String change, Consumer<FormatVault> run) {
        String answers = Image.of(() -> {
            FormatVault vault = Archives.busy();
            run.accept(vault);
            return vault;
        });
        CHECK.same("the image shows " + change, answers.equals(Image.of(Archives::busy)), false);
    }

    private static void theImageShowsEachChange() {
        shows("setLast", vault -> vault.setLast(9, 999));
        shows("setLast to NONE", vault -> vault.setLast(3, NONE));
        shows("converter", vault -> vault.converter(8, 9, 500, 100));
        shows("withdraw", vault -> vault.withdraw(4));
        shows("more years of a law", vault -> vault.law(0, 11, 0, 5));
        shows("a greater least quality", vault -> vault.law(1, 10, 901, 3));
        shows("a smaller least quality", vault -> vault.law(1, 10, 899, 3));
        shows("more years without reading", vault -> vault.law(3, 100, 1000, 49));
        shows("file", vault -> vault.file(9, 1, 0));
        shows("hold", vault -> vault.hold(0, true));
        shows("no hold", vault -> vault.hold(4, false));
        shows("read", vault -> vault.read(0));
        shows("move", vault -> vault.move(0, 0));
        shows("moveAhead", vault -> vault.moveAhead());
        shows("setBudget", vault -> vault.setBudget(501));
        shows("begin", vault -> vault.begin());
    }

    // ---- formats, converters, laws

    private void promise2() {
        for (int format : Archives.outside(0, 9)) {
            noSuch("setLast of no format", vault -> vault.setLast(format, 5));
            noSuch("of no format to a wrong year", vault -> vault.setLast(format, 1001));
            noSuch("of no format to a year ahead", vault -> vault.setLast(format, 2));
        }
        for (int last : new int[] {2, 0, -2, 1001, Archives.MIN, Archives.MAX}) {
            outOfRange("setLast to " + last, vault -> vault.setLast(1, last));
            outOfRange("setLast of one without end", vault -> vault.setLast(0, last));
            outOfRange("setLast in the last year", vault -> vault.setLast(3, last));
            outOfRange("of one that ended to a wrong year", vault -> vault.setLast(2, last));
        }
        for (int last : new int[] {3, 4, 1000, NONE}) {
            notNow("setLast of one that ended", vault -> vault.setLast(2, last));
        }
    }

    private void promise3() {
        for (int format : Archives.outside(0, 9)) {
            noSuch("converter from no format", vault -> vault.converter(format, 1, 0, 0));
            noSuch("converter to no format", vault -> vault.converter(1, format, 0, 0));
            noSuch("both the same", vault -> vault.converter(format, format, 0, 0));
            noSuch("from none, loss wrong", vault -> vault.converter(format, 1, 501, 0));
            noSuch("to none, cost wrong", vault -> vault.converter(1, format, 0, 101));
        }
        for (int loss : Archives.outside(0, 500)) {
            outOfRange("loss " + loss, vault -> vault.converter(8, 9, loss, 0));
            outOfRange("to the same", vault -> vault.converter(8, 8, loss, 0));
        }
        for (int cost : Archives.outside(0, 100)) {
            outOfRange("cost " + cost, vault -> vault.converter(8, 9, 0, cost));
            outOfRange("loss wrong", vault -> vault.converter(8, 9, -1, cost));
        }
        for (int format = 0; format < 10; format++) {
            int its = format;
            outOfRange("converter to the same", vault -> vault.converter(its, its, 0, 0));
        }
    }

    private void promise4() {
        for (int converter : new int[] {-1, 9, 10, 29, 30, Archives.MIN, Archives.MAX}) {
            noSuch("withdraw " + converter, vault -> vault.withdraw(converter));
        }
        notNow("withdraw a withdrawn one", vault -> vault.withdraw(7));
    }

    /** The laws are such that a part of the refused one would show. */
    private void promise5() {
        for (int law : Archives.outside(0, 4)) {
            noSuch("law " + law, vault -> vault.law(law, 1, 1000, 1));
            noSuch("years wrong", vault -> vault.law(law, 0, 1000, 1));
            noSuch("least wrong", vault -> vault.law(law, 1, 1001, 1));
            noSuch("reads wrong", vault -> vault.law(law, 1, 1000, 0));
        }
        for (int law = 0; law < 5; law++) {
            int its = law;
            for (int years : Archives.outside(1, 100)) {
                outOfRange("years " + years, vault -> vault.law(its, years, 901, 7));
                outOfRange("years " + years, vault -> vault.law(its, years, 0, 1));
            }
            for (int least : Archives.outside(0, 1000)) {
                outOfRange("least " + least, vault -> vault.law(its, 17, least, 7));
            }
            for (int reads : Archives.outside(1, 50)) {
                outOfRange("reads " + reads, vault -> vault.law(its, 17, 901, reads));
                outOfRange("reads " + reads, vault -> vault.law(its, 17, 0, reads));
            }
            outOfRange("all three", vault -> vault.law(its, 0, -1, 51));
        }
    }

    // ---- ways

    private void promises6To9() {
        for (int format : Archives.outside(0, 9)) {
            noSuch("quality from " + format, vault -> vault.quality(format, 1));
            noSuch("quality to " + format, vault -> vault.quality(1, format));
            noSuch("qualityByAll from " + format, vault -> vault.qualityByAll(format, 1));
            noSuch("qualityByAll to " + format, vault -> vault.qualityByAll(1, format));
            noSuch("cost from " + format, vault -> vault.cost(format, 1));
            noSuch("cost to " + format, vault -> vault.cost(1, format));
            noSuch("stepAt from " + format, vault -> vault.stepAt(format, 1, 0));
            noSuch("stepAt to " + format, vault -> vault.stepAt(1, format, 0));
        }
        for (int place : new int[] {-1, Archives.MIN}) {
            noSuch("place " + place, vault -> vault.stepAt(0, 1, place));
            noSuch("place of no format", vault -> vault.stepAt(10, 1, place));
        }
    }

    // ---- files

    private void promise10() {
        for (int format : Archives.outside(0, 9)) {
            noSuch("file of format " + format, vault -> vault.file(format, 1, 0));
            noSuch("by no law", vault -> vault.file(format, 1, 5));
            noSuch("size wrong", vault -> vault.file(format, 0, 0));
        }
        for (int law : Archives.outside(0, 4)) {
            noSuch("file by law " + law, vault -> vault.file(0, 1, law));
            noSuch("size wrong", vault -> vault.file(0, 101, law));
            noSuch("of a format that ended", vault -> vault.file(2, 1, law));
            noSuch("all of it", vault -> vault.file(2, 0, law));
        }
        for (int size : Archives.outside(1, 100)) {
            outOfRange("size " + size, vault -> vault.file(0, size, 0));
            outOfRange("of a format that ended", vault -> vault.file(2, size, 0));
        }
        notNow("file of a format that ended", vault -> vault.file(2, 1, 0));
    }

    private void promises11And12() {
        for (int file : new int[] {-1, 10, 39, 40, Archives.MIN, Archives.MAX}) {
            noSuch("hold " + file, vault -> vault.hold(file, true));
            noSuch("let go " + file, vault -> vault.hold(file, false));
            noSuch("read " + file, vault -> vault.read(file));
        }
        for (int file : new int[] {2, 3}) {
            notNow("hold one that is not kept", vault -> vault.hold(file, true));
            notNow("let go one that is not kept", vault -> vault.hold(file, false));
            notNow("read one that is not kept", vault -> vault.read(file));
        }
        notNow("read one below the least quality", vault -> vault.read(1));
    }

    private void promise13() {
        for (int file : new int[] {-1, 10, 39, 40, Archives.MIN, Archives.MAX}) {
            noSuch("move file " + file, vault -> vault.move(file, 1));
            noSuch("to no format", vault -> vault.move(file, 10));
        }
        for (int format : Archives.outside(0, 9)) {
            noSuch("move to format " + format, vault -> vault.move(0, format));
            noSuch("a released one", vault -> vault.move(2, format));
            noSuch("a lost one", vault -> vault.move(3, format));
        }
        outOfRange("move to its own format", vault -> vault.move(0, 1));
        outOfRange("a released one to its own", vault -> vault.move(2, 5));
        outOfRange("a lost one to its own, that ended", vault -> vault.move(3, 2));
        notNow("a released one", vault -> vault.move(2, 0));
        notNow("a lost one", vault -> vault.move(3, 0));
        notNow("to a format that ended", vault -> vault.move(0, 2));
        notNow("without a way", vault -> vault.move(0, 9));
        notNow("by a withdrawn converter", vault -> vault.move(0, 7));
        notNow("for more than is left", vault -> vault.move(9, 5));
        notNow("for more by 2, behind two converters", vault -> vault.move(9, 1));
    }

    private void promises15To20() {
        for (int file : new int[] {-1, 10, 39, 40, Archives.MIN, Archives.MAX}) {
            noSuch("haven of " + file, vault -> vault.haven(file));
            noSuch("isSafe of " + file, vault -> vault.isSafe(file));
            noSuch("stateOf " + file, vault -> vault.stateOf(file));
            noSuch("formatOf " + file, vault -> vault.formatOf(file));
            noSuch("qualityOf " + file, vault -> vault.qualityOf(file));
            noSuch("endOf " + file, vault -> vault.endOf(file));
        }
    }

    // ---- years, budgets, promises

    private void promises21And26() {
        for (int budget : Archives.outside(0, 1000000)) {
            outOfRange("setBudget to " + budget, vault -> vault.setBudget(budget));
        }
        for (int format : Archives.outside(0, 9)) {
            noSuch("promise of format " + format, vault -> vault.promise(format, 0));
        }
        for (int law : Archives.outside(0, 4)) {
            noSuch("promise by law " + law, vault -> vault.promise(0, law));
            noSuch("of a format that ended", vault -> vault.promise(2, law));
        }
    }

    private void promise23() {
        notNow("begin in the year 900", vault -> vault.begin());
    }

    // ---- full, and nothing there yet

    private void promise3ThirtyConverters() {
        notNow("converter 30", vault -> vault.converter(0, 9, 0, 0));
        notNow("converter 30, the greatest", vault -> vault.converter(9, 0, 500, 100));
        outOfRange("converter 30, loss wrong", vault -> vault.converter(0, 9, 501, 0));
        outOfRange("converter 30, cost wrong", vault -> vault.converter(0, 9, 0, -1));
        outOfRange("converter 30, to the same", vault -> vault.converter(9, 9, 0, 0));
        noSuch("converter 30, from none", vault -> vault.converter(-1, 9, 0, 0));
        noSuch("converter 30, to none", vault -> vault.converter(0, 10, -1, -1));
    }

    private void promise4ThirtyConverters() {
        for (int converter : Archives.outside(0, 29)) {
            noSuch("withdraw " + converter, vault -> vault.withdraw(converter));
        }
        for (int converter : new int[] {5, 17, 29}) {
            notNow("withdraw " + converter + " again", vault -> vault.withdraw(converter));
        }
    }

    private void promise10FortyFiles() {
        notNow("file 40", vault -> vault.file(0, 1, 0));
        notNow("file 40 of a format that ended", vault -> vault.file(6, 1, 0));
        outOfRange("file 40, size wrong", vault -> vault.file(0, 0, 0));
        outOfRange("file 40, all but that", vault -> vault.file(6, 101, 0));
        noSuch("file 40 of no format", vault -> vault.file(10, 1, 0));
        noSuch("file 40 by no law", vault -> vault.file(6, 0, -1));
    }

    private void promises11To20FortyFiles() {
        for (int file : Archives.outside(0, 39)) {
            noSuch("hold " + file, vault -> vault.hold(file, true));
            noSuch("read " + file, vault -> vault.read(file));
            noSuch("move " + file, vault -> vault.move(file, 1));
            noSuch("haven of " + file, vault -> vault.haven(file));
            noSuch("isSafe of " + file, vault -> vault.isSafe(file));
            noSuch("stateOf " + file, vault -> vault.stateOf(file));
            noSuch("formatOf " + file, vault -> vault.formatOf(file));
            noSuch("qualityOf " + file, vault -> vault.qualityOf(file));
            noSuch("endOf " + file, vault -> vault.endOf(file));
        }
    }

    private void nothingThereYet() {
        noSuch("withdraw", vault -> vault.withdraw(0));
        noSuch("hold", vault -> vault.hold(0, true));
        noSuch("read", vault -> vault.read(0));
        noSuch("move", vault -> vault.move(0, 1));
        noSuch("move to no format", vault -> vault.move(0, 10));
        noSuch("haven", vault -> vault.haven(0));
        noSuch("isSafe", vault -> vault.isSafe(0));
        noSuch("stateOf", vault -> vault.stateOf(0));
        noSuch("formatOf", vault -> vault.formatOf(0));
        noSuch("qualityOf", vault -> vault.qualityOf(0));
        noSuch("endOf", vault -> vault.endOf(0));
        outOfRange("setLast", vault -> vault.setLast(0, -2));
        outOfRange("setBudget", vault -> vault.setBudget(-1));
    }

    // ---- questions

    private void questionsChangeNothing() {
        sameBehind("quality and cost", vault -> {
            for (int pair = 0; pair < 100; pair++) {
                vault.quality(pair / 10, pair % 10);
            }
        });
        sameBehind("qualityByAll", vault -> {
            for (int pair = 0; pair < 100; pair++) {
                vault.qualityByAll(pair / 10, pair % 10);
            }
        });
        sameBehind("cost and stepAt", vault -> {
            for (int pair = 0; pair < 50; pair++) {
                vault.cost(pair / 5, pair % 5);
                vault.stepAt(pair / 5, 5 + pair % 5, pair % 3);
            }
        });
        sameBehind("promise", vault -> {
            for (int pair = 0; pair < 50; pair++) {
                vault.promise(pair / 5, pair % 5);
            }
        });
        sameBehind("left, year and overdue", vault -> {
            vault.left();
            vault.year();
            vault.overdue();
        });
        sameBehind("haven and isSafe", vault -> {
            for (int file = 0; file < 40; file++) {
                vault.haven(file);
                vault.isSafe(file);
            }
        });
        sameBehind("what a file is", vault -> {
            for (int file = 0; file < 20; file++) {
                vault.stateOf(file);
                vault.formatOf(file);
                vault.qualityOf(file);
                vault.endOf(file);
            }
        });
    }
}
