/** The boundaries that promises 10 to 13 name. */
public final class FileEdgesTest {
    private static final int NONE = FormatVault.NONE;
    private static final int KEPT = FormatVault.KEPT;
    private static final int RELEASED = FormatVault.RELEASED;
    private static final int LOST = FormatVault.LOST;
    private static final int MIN = Archives.MIN;
    private static final int MAX = Archives.MAX;
    private static final Check CHECK = new Check("edges of files");

    public static void main(String[] args) {
        promise10FirstAndLastFormatAndLaw();
        promise10LeastAndGreatestSize();
        promise10NumbersUpTo39();
        promise10LostAndReleasedOnesCountToThe40();
        promise10InTheLastYearOfItsFormatAndBehindIt();
        promise10LeastAndGreatestEnd();
        promise11FirstAndLastFile();
        promise11TrueIfThatChangesSomething();
        promise11OnlyAKeptOne();
        promise11HeldAtTheEndOfItsYears();
        promise12InTheYearInWhichItWasTakenIn();
        promise12GreatestNumberOfYears();
        promise12InTheLastYearOfItsFormat();
        promise12JustTheLeastQuality();
        promise12OnlyAKeptOne();
        promise13FirstAndLastFormatAndFile();
        promise13ItsOwnFormat();
        promise13JustWhatIsLeft();
        promise13GreatestCostOfAMove();
        promise13NothingLeftOfTheBudget();
        promise13InTheLastYearOfTheFormatAndBehindIt();
        promise13NoWay();
        promise13OnlyAKeptOne();
        promise13BelowTheLeastQuality();
        promise13RoundedDownAtEachStep();
        CHECK.end();
    }

    private static FormatVault withOneFileOf(int format) {
        FormatVault vault = new FormatVault();
        vault.file(format, 1, 0);
        return vault;
    }

    // ---- promise 10

    private static void promise10FirstAndLastFormatAndLaw() {
        FormatVault vault = new FormatVault();
        for (int law = 0; law < 5; law++) {
            vault.law(law, 11 + law, 0, 5);
        }
        for (int i = 0; i < 10; i++) {
            CHECK.same("file of format " + i, vault.file(i, 1, i % 5), i);
            CHECK.same("its format", vault.formatOf(i), i);
            CHECK.same("its end by law " + i % 5, vault.endOf(i), 11 + i % 5);
            CHECK.same("its quality", vault.qualityOf(i), 1000);
            CHECK.same("its state", vault.stateOf(i), KEPT);
        }
        for (int wrong : Archives.outside(0, 9)) {
            CHECK.noSuch("file of format " + wrong, () -> vault.file(wrong, 1, 0));
        }
        for (int wrong : Archives.outside(0, 4)) {
            CHECK.noSuch("file by law " + wrong, () -> vault.file(0, 1, wrong));
        }
        CHECK.same("nothing was taken in", vault.file(0, 1, 0), 10);
    }

    private static void promise10LeastAndGreatestSize() {
        FormatVault vault = new FormatVault();
        vault.converter(0, 1, 0, 10);
        CHECK.same("size 1", vault.file(0, 1, 0), 0);
        CHECK.same("size 100", vault.file(0, 100, 0), 1);
        CHECK.same("size 99", vault.file(0, 99, 0), 2);
        for (int size : Archives.outside(1, 100)) {
            CHECK.outOfRange("size " + size, () -> vault.file(0, size, 0));
        }
        CHECK.noSuch("nothing was taken in", () -> vault.stateOf(3));
        vault.move(0, 1);
        CHECK.same("left behind size 1", vault.left(), 990);
        vault.move(2, 1);
        CHECK.same("left behind size 99", vault.left(), 0);
        vault.begin();
        vault.move(1, 1);
        CHECK.same("left behind size 100", vault.left(), 0);
    }

    private static void promise10NumbersUpTo39() {
        FormatVault vault = new FormatVault();
        for (int i = 0; i < 40; i++) {
            int next = i;
            CHECK.noSuch("ahead of its taking in", () -> vault.stateOf(next));
            CHECK.same("file " + i, vault.file(i % 10, 1, i % 5), i);
        }
        for (int format = 0; format < 10; format++) {
            int its = format;
            CHECK.notNow("the 41st of format " + its, () -> vault.file(its, 100, 4));
        }
        CHECK.same("the last one is as it was", vault.formatOf(39), 9);
        CHECK.noSuch("there is no 41st", () -> vault.formatOf(40));
    }

    private static void promise10LostAndReleasedOnesCountToThe40() {
        FormatVault vault = new FormatVault();
        vault.law(0, 1, 0, 5);
        vault.setLast(1, 1);
        for (int i = 0; i < 39; i++) {
            vault.file(i % 2, 1, i % 2);
        }
        Archives.begin(vault, 2);
        CHECK.same("released ones", vault.stateOf(38), RELEASED);
        CHECK.same("lost ones", vault.stateOf(37), LOST);
        CHECK.same("the 40th", vault.file(0, 1, 0), 39);
        CHECK.notNow("the 41st", () -> vault.file(0, 1, 0));
        CHECK.notNow("the 41st of a format that ended", () -> vault.file(1, 1, 0));
    }

    private static void promise10InTheLastYearOfItsFormatAndBehindIt() {
        FormatVault vault = new FormatVault();
        vault.setLast(4, 0);
        vault.setLast(5, 1);
        CHECK.same("in its last year, 0", vault.file(4, 1, 0), 0);
        vault.begin();
        CHECK.notNow("one year behind it", () -> vault.file(4, 1, 0));
        CHECK.same("in its last year, 1", vault.file(5, 1, 0), 1);
        vault.begin();
        CHECK.notNow("behind it", () -> vault.file(5, 1, 0));
        CHECK.same("only one was lost then", vault.stateOf(1), LOST);
        CHECK.same("the next one", vault.file(6, 1, 0), 2);
    }

    private static void promise10LeastAndGreatestEnd() {
        FormatVault vault = new FormatVault();
        vault.law(0, 1, 0, 5);
        vault.law(1, 100, 0, 5);
        CHECK.same("the least end", vault.endOf(vault.file(0, 1, 0)), 1);
        Archives.begin(vault, 400);
        CHECK.same("a far end", vault.endOf(vault.file(0, 1, 1)), 500);
        CHECK.same("a near one", vault.endOf(vault.file(0, 1, 0)), 401);
    }

    // ---- promise 11

    private static void promise11FirstAndLastFile() {
        FormatVault vault = new FormatVault();
        CHECK.noSuch("none there yet", () -> vault.hold(0, true));
        CHECK.noSuch("nor to let go", () -> vault.hold(0, false));
        for (int i = 0; i < 40; i++) {
            vault.file(0, 1, 0);
        }
        CHECK.same("hold the first", vault.hold(0, true), true);
        CHECK.same("hold the last", vault.hold(39, true), true);
        CHECK.same("none between them is held", vault.hold(1, false), false);
        for (int file : Archives.outside(0, 39)) {
            CHECK.noSuch("hold " + file, () -> vault.hold(file, true));
            CHECK.noSuch("let go " + file, () -> vault.hold(file, false));
        }
        Archives.begin(vault, 11);
        CHECK.same("the first is kept", vault.stateOf(0), KEPT);
        CHECK.same("the second is not", vault.stateOf(1), RELEASED);
        CHECK.same("the last is kept", vault.stateOf(39), KEPT);
    }

    private static void promise11TrueIfThatChangesSomething() {
        FormatVault vault = withOneFileOf(0);
        CHECK.same("a new one is not held", vault.hold(0, false), false);
        CHECK.same("held", vault.hold(0, true), true);
        CHECK.same("held already", vault.hold(0, true), false);
        vault.converter(0, 1, 0, 0);
        vault.move(0, 1);
        vault.begin();
        CHECK.same("held also behind a move and a year", vault.hold(0, true), false);
        CHECK.same("let go", vault.hold(0, false), true);
        CHECK.same("let go already", vault.hold(0, false), false);
        CHECK.same("held once more", vault.hold(0, true), true);
    }

    private static void promise11OnlyAKeptOne() {
        FormatVault vault = new FormatVault();
        vault.law(0, 1, 0, 5);
        vault.setLast(1, 1);
        vault.file(0, 1, 0);
        vault.file(1, 1, 1);
        vault.hold(1, true);
        vault.begin();
        CHECK.same("hold in the last year", vault.hold(0, true), true);
        CHECK.same("let go in the last year", vault.hold(0, false), true);
        vault.begin();
        for (int file = 0; file < 2; file++) {
            int its = file;
            CHECK.notNow("hold " + its, () -> vault.hold(its, true));
            CHECK.notNow("let go " + its, () -> vault.hold(its, false));
        }
        CHECK.same("one is released", vault.stateOf(0), RELEASED);
        CHECK.same("one is lost", vault.stateOf(1), LOST);
    }

    private static void promise11HeldAtTheEndOfItsYears() {
        FormatVault vault = new FormatVault();
        vault.law(0, 2, 0, 5);
        vault.file(0, 1, 0);
        vault.file(0, 1, 0);
        Archives.begin(vault, 2);
        vault.hold(0, true);
        vault.begin();
        CHECK.same("held in the year of its end, just in time", vault.stateOf(0), KEPT);
        CHECK.same("the other one is released", vault.stateOf(1), RELEASED);
        Archives.begin(vault, 200);
        CHECK.same("held for long", vault.stateOf(0), KEPT);
        vault.hold(0, false);
        CHECK.same("let go, but no year has begun", vault.stateOf(0), KEPT);
        vault.hold(0, true);
        vault.begin();
        CHECK.same("held again in the same year", vault.stateOf(0), KEPT);
        vault.hold(0, false);
        vault.begin();
        CHECK.same("released when the next one begins", vault.stateOf(0), RELEASED);
    }

    // ---- promise 12

    private static void promise12InTheYearInWhichItWasTakenIn() {
        for (int year : new int[] {0, 1, 300}) {
            FormatVault vault = Archives.inYear(year);
            vault.file(0, 1, 0);
            CHECK.same("taken in is read", vault.read(0), 0);
            vault.begin();
            CHECK.same("one year behind", vault.read(0), 1);
            CHECK.same("twice in a year", vault.read(0), 0);
        }
    }

    private static void promise12GreatestNumberOfYears() {
        FormatVault vault = new FormatVault();
        vault.law(0, 100, 0, 50);
        vault.file(0, 1, 0);
        vault.file(0, 1, 0);
        vault.hold(1, true);
        Archives.begin(vault, 100);
        CHECK.same("in the year of its end", vault.read(0), 100);
        Archives.begin(vault, 400);
        CHECK.same("held far behind its end", vault.read(1), 500);
        CHECK.notNow("released", () -> vault.read(0));
    }

    private static void promise12InTheLastYearOfItsFormat() {
        FormatVault vault = new FormatVault();
        vault.setLast(0, 2);
        vault.file(0, 1, 0);
        Archives.begin(vault, 2);
        CHECK.same("in the last year", vault.read(0), 2);
        vault.begin();
        CHECK.notNow("behind it", () -> vault.read(0));
        CHECK.same("as it is lost", vault.stateOf(0), LOST);
    }

    private static void promise12JustTheLeastQuality() {
        for (int loss : new int[] {0, 1, 499, 500}) {
            FormatVault vault = withOneFileOf(0);
            vault.converter(0, 1, loss, 0);
            vault.move(0, 1);
            vault.begin();
            if (loss > 0) {
                vault.law(0, 10, 1001 - loss, 5);
                CHECK.notNow("one below the least", () -> vault.read(0));
            }
            vault.law(0, 10, 1000 - loss, 5);
            CHECK.same("just the least", vault.read(0), 1);
            vault.law(0, 10, 999 - loss, 5);
            CHECK.same("one above the least", vault.read(0), 0);
        }
    }

    private static void promise12OnlyAKeptOne() {
        FormatVault vault = new FormatVault();
        vault.law(0, 1, 0, 5);
        vault.setLast(1, 1);
        vault.file(0, 1, 0);
        vault.file(1, 1, 1);
        for (int wrong : Archives.outside(0, 1)) {
            CHECK.noSuch("read " + wrong, () -> vault.read(wrong));
        }
        vault.begin();
        CHECK.same("in the year of its end", vault.read(0), 1);
        CHECK.same("in the last year of its format", vault.read(1), 1);
        vault.begin();
        CHECK.notNow("a released one, of a format without end", () -> vault.read(0));
        CHECK.notNow("a lost one", () -> vault.read(1));
    }

    // ---- promise 13

    private static void promise13FirstAndLastFormatAndFile() {
        FormatVault vault = new FormatVault();
        vault.converter(0, 9, 1, 1);
        vault.converter(9, 0, 2, 1);
        for (int i = 0; i < 40; i++) {
            vault.file(i % 2 * 9, 1, 0);
        }
        CHECK.same("the first one to format 9", vault.move(0, 9), 999);
        CHECK.same("the last one to format 0", vault.move(39, 0), 998);
        CHECK.same("the first one is there", vault.formatOf(0), 9);
        CHECK.same("the last one is there", vault.formatOf(39), 0);
        for (int file : Archives.outside(0, 39)) {
            CHECK.noSuch("move file " + file, () -> vault.move(file, 1));
        }
        for (int format : Archives.outside(0, 9)) {
            CHECK.noSuch("move to format " + format, () -> vault.move(1, format));
        }
    }

    private static void promise13ItsOwnFormat() {
        for (int format = 0; format < 10; format++) {
            FormatVault vault = withOneFileOf(format);
            int its = format;
            int other = (format + 1) % 10;
            vault.converter(its, other, 0, 0);
            vault.converter(other, its, 0, 0);
            CHECK.outOfRange("its own one is " + its, () -> vault.move(0, its));
            CHECK.same("another one", vault.move(0, other), 1000);
            CHECK.outOfRange("that is its own one then", () -> vault.move(0, other));
            CHECK.same("and back", vault.move(0, its), 1000);
        }
    }

    private static void promise13JustWhatIsLeft() {
        FormatVault vault = new FormatVault();
        vault.converter(0, 1, 0, 10);
        vault.converter(1, 0, 0, 1);
        vault.file(0, 100, 0);
        vault.file(0, 1, 0);
        CHECK.same("for 1000 of 1000", vault.move(0, 1), 1000);
        CHECK.same("nothing is left", vault.left(), 0);
        CHECK.notNow("for 10 of 0", () -> vault.move(1, 1));
        CHECK.notNow("for 100 of 0", () -> vault.move(0, 0));
        vault.setBudget(9);
        vault.begin();
        CHECK.notNow("for 10 of 9", () -> vault.move(1, 1));
        CHECK.same("9 are left", vault.left(), 9);
        vault.setBudget(10);
        vault.begin();
        CHECK.same("for 10 of 10", vault.move(1, 1), 1000);
        CHECK.same("none is left", vault.left(), 0);
        vault.setBudget(11);
        vault.begin();
        CHECK.same("for 1 of 11", vault.move(1, 0), 1000);
        CHECK.same("10 are left", vault.left(), 10);
        CHECK.same("for 10 of 10 again", vault.move(1, 1), 1000);
    }

    private static void promise13GreatestCostOfAMove() {
        FormatVault vault = Archives.row(0, 100);
        vault.file(0, 100, 0);
        vault.setBudget(89999);
        vault.begin();
        CHECK.notNow("for 90000 of 89999", () -> vault.move(0, 9));
        vault.setBudget(90000);
        vault.begin();
        CHECK.same("for 90000 of 90000", vault.move(0, 9), 1000);
        CHECK.same("nothing is left", vault.left(), 0);
        vault.file(0, 100, 0);
        vault.setBudget(1000000);
        vault.begin();
        vault.move(1, 9);
        CHECK.same("of the greatest budget", vault.left(), 910000);
    }

    private static void promise13NothingLeftOfTheBudget() {
        FormatVault vault = new FormatVault();
        vault.setBudget(0);
        vault.begin();
        vault.converter(0, 1, 300, 0);
        vault.converter(1, 2, 0, 1);
        vault.file(0, 100, 0);
        vault.file(1, 1, 0);
        CHECK.same("a move for nothing", vault.move(0, 1), 700);
        CHECK.notNow("a move for 1", () -> vault.move(1, 2));
        CHECK.same("still nothing", vault.left(), 0);
    }

    private static void promise13InTheLastYearOfTheFormatAndBehindIt() {
        FormatVault vault = new FormatVault();
        vault.converter(0, 1, 0, 0);
        vault.converter(1, 2, 0, 0);
        vault.setLast(1, 2);
        vault.file(0, 1, 0);
        vault.file(0, 1, 0);
        vault.file(0, 1, 0);
        Archives.begin(vault, 2);
        CHECK.same("to a format in its last year", vault.move(0, 1), 1000);
        vault.begin();
        CHECK.notNow("to a format behind it", () -> vault.move(1, 1));
        CHECK.same("over a format behind it", vault.move(2, 2), 1000);
        CHECK.same("the one that was moved there is lost", vault.stateOf(0), LOST);
    }

    private static void promise13NoWay() {
        FormatVault vault = withOneFileOf(0);
        CHECK.notNow("without converters", () -> vault.move(0, 1));
        vault.converter(1, 0, 0, 0);
        CHECK.notNow("with one that leads back", () -> vault.move(0, 1));
        vault.converter(0, 1, 10, 0);
        vault.withdraw(1);
        CHECK.notNow("with a withdrawn one", () -> vault.move(0, 1));
        vault.converter(0, 1, 20, 0);
        CHECK.same("with a new one", vault.move(0, 1), 980);
    }

    private static void promise13OnlyAKeptOne() {
        FormatVault vault = new FormatVault();
        vault.law(0, 1, 0, 5);
        vault.setLast(1, 1);
        vault.converter(0, 2, 0, 0);
        vault.converter(1, 2, 0, 0);
        vault.file(0, 1, 0);
        vault.file(1, 1, 1);
        vault.file(1, 1, 1);
        vault.begin();
        CHECK.same("in the last year of its format", vault.move(2, 2), 1000);
        vault.begin();
        CHECK.notNow("a released one", () -> vault.move(0, 2));
        CHECK.notNow("a lost one", () -> vault.move(1, 2));
        CHECK.outOfRange("a released one to its own", () -> vault.move(0, 0));
        CHECK.outOfRange("a lost one to its own", () -> vault.move(1, 1));
        CHECK.same("the moved one is kept", vault.stateOf(2), KEPT);
    }

    private static void promise13BelowTheLeastQuality() {
        FormatVault vault = withOneFileOf(0);
        vault.converter(0, 1, 500, 0);
        vault.converter(1, 0, 0, 0);
        vault.law(0, 10, 1000, 5);
        CHECK.same("it is moved all the same", vault.move(0, 1), 500);
        CHECK.notNow("but cannot be read", () -> vault.read(0));
        CHECK.same("it has no haven", vault.haven(0), NONE);
        CHECK.same("and can be moved on", vault.move(0, 0), 500);
    }

    /** From 500 the losses are 499.5 and 498.5; 998 thousandths of 500 would be 499. */
    private static void promise13RoundedDownAtEachStep() {
        FormatVault vault = withOneFileOf(0);
        vault.converter(0, 1, 500, 0);
        vault.converter(1, 2, 1, 0);
        vault.converter(2, 3, 1, 0);
        vault.move(0, 1);
        CHECK.same("the quality of the way", vault.quality(1, 3), 998);
        CHECK.same("the quality of the file behind it", vault.move(0, 3), 498);
        vault.file(0, 1, 0);
        CHECK.same("from 1000 over all three", vault.move(1, 3), 498);
        vault.file(1, 1, 0);
        CHECK.same("from 1000 over two", vault.move(2, 3), 998);
    }
}
