/** The boundaries that promises 21 to 26 name. */
public final class YearEdgesTest {
    private static final int NONE = FormatVault.NONE;
    private static final int KEPT = FormatVault.KEPT;
    private static final int RELEASED = FormatVault.RELEASED;
    private static final int LOST = FormatVault.LOST;
    private static final Check CHECK = new Check("edges of years");

    public static void main(String[] args) {
        promise21LeastAndGreatestBudget();
        promise21ReturnsTheOneBefore();
        promise21FromTheNextYearOn();
        promise22AtTheBeginningOfEachYear();
        promise22NothingLeft();
        promise22ByEachMove();
        promise23NoFilesAndAllFiles();
        promise23InTheYearOfItsEndAndBehindIt();
        promise23InTheLastYearOfItsFormatAndBehindIt();
        promise23EndAndFormatOverAtOnce();
        promise23HeldOnes();
        promise23CountsEachLostOneOnce();
        promise23UpToTheYear900();
        promise24CountsFromNothing();
        promise25JustInTimeAndOneYearLate();
        promise25NoFilesAndAllFiles();
        promise25OnlyKeptOnes();
        promise25OnesThatCannotBeRead();
        promise26NoYearOneYearAndAHundred();
        promise26WithoutEnd();
        promise26LongestOfSeveral();
        promise26InTheLastYearOfItsFormatAndBehindIt();
        promise26HavensThatEnded();
        promise26JustTheLeastQuality();
        promise26AsksNothingElse();
        promise26IsKept();
        promise26FirstAndLastFormatAndLaw();
        CHECK.end();
    }

    // ---- promise 21

    private static void promise21LeastAndGreatestBudget() {
        FormatVault vault = new FormatVault();
        for (int budget : new int[] {0, 1, 999999, 1000000}) {
            vault.setBudget(budget);
            for (int wrong : Archives.outside(0, 1000000)) {
                CHECK.outOfRange("setBudget to " + wrong, () -> vault.setBudget(wrong));
            }
            vault.begin();
            CHECK.same("left of " + budget, vault.left(), budget);
            CHECK.same("it stays", vault.setBudget(budget), budget);
        }
    }

    private static void promise21ReturnsTheOneBefore() {
        FormatVault vault = new FormatVault();
        CHECK.same("1000 at first", vault.setBudget(5), 1000);
        CHECK.same("5 in the same year", vault.setBudget(6), 5);
        CHECK.same("6, though no year has begun", vault.setBudget(0), 6);
        CHECK.same("0", vault.setBudget(0), 0);
        vault.begin();
        CHECK.same("0 in the next year", vault.setBudget(1000000), 0);
        CHECK.same("1000000", vault.setBudget(1), 1000000);
    }

    private static void promise21FromTheNextYearOn() {
        FormatVault vault = new FormatVault();
        vault.setBudget(7);
        CHECK.same("left in the year of the call", vault.left(), 1000);
        for (int year = 1; year < 5; year++) {
            vault.begin();
            CHECK.same("left in the year " + year, vault.left(), 7);
        }
        vault.setBudget(8);
        vault.setBudget(9);
        CHECK.same("still the old one", vault.left(), 7);
        vault.begin();
        CHECK.same("the last one that was told", vault.left(), 9);
    }

    // ---- promise 22

    private static void promise22AtTheBeginningOfEachYear() {
        FormatVault vault = new FormatVault();
        vault.converter(0, 1, 0, 1);
        vault.converter(1, 0, 0, 1);
        vault.file(0, 100, 0);
        for (int year = 0; year < 5; year++) {
            CHECK.same("left at the beginning", vault.left(), 1000);
            vault.move(0, 1 - vault.formatOf(0));
            CHECK.same("left behind a move", vault.left(), 900);
            vault.begin();
        }
    }

    private static void promise22NothingLeft() {
        FormatVault vault = new FormatVault();
        vault.converter(0, 1, 0, 10);
        vault.converter(1, 0, 0, 0);
        vault.file(0, 100, 0);
        vault.move(0, 1);
        CHECK.same("nothing is left", vault.left(), 0);
        vault.move(0, 0);
        CHECK.same("nor behind a move for nothing", vault.left(), 0);
        CHECK.notNow("one for 1000", () -> vault.move(0, 1));
        CHECK.same("it is never less", vault.left(), 0);
        vault.setBudget(0);
        vault.begin();
        CHECK.same("nothing at the beginning", vault.left(), 0);
    }

    private static void promise22ByEachMove() {
        FormatVault vault = new FormatVault();
        vault.converter(0, 1, 0, 1);
        vault.setLast(0, 5);
        for (int size = 1; size <= 10; size++) {
            vault.file(0, size, 0);
        }
        vault.move(0, 1);
        CHECK.same("999", vault.left(), 999);
        vault.move(9, 1);
        CHECK.same("989", vault.left(), 989);
        vault.moveAhead();
        CHECK.same("1000 less 55", vault.left(), 945);
    }

    // ---- promise 23

    private static void promise23NoFilesAndAllFiles() {
        FormatVault vault = new FormatVault();
        CHECK.same("no files", vault.begin(), 0);
        vault.setLast(0, 1);
        for (int i = 0; i < 40; i++) {
            vault.file(0, 1, i % 5);
        }
        CHECK.same("all 40 are lost", vault.begin(), 40);
        CHECK.same("none is lost again", vault.begin(), 0);
        FormatVault released = new FormatVault();
        released.law(0, 1, 0, 5);
        for (int i = 0; i < 40; i++) {
            released.file(0, 1, 0);
        }
        CHECK.same("none in the year of their end", released.begin(), 0);
        CHECK.same("released ones are not lost", released.begin(), 0);
        CHECK.same("the first", released.stateOf(0), RELEASED);
        CHECK.same("the last", released.stateOf(39), RELEASED);
    }

    private static void promise23InTheYearOfItsEndAndBehindIt() {
        for (int years : new int[] {1, 50, 100}) {
            FormatVault vault = new FormatVault();
            vault.law(0, years, 0, 5);
            vault.file(0, 1, 0);
            Archives.begin(vault, years);
            CHECK.same("now is its end", vault.stateOf(0), KEPT);
            vault.begin();
            CHECK.same("now is later", vault.stateOf(0), RELEASED);
        }
    }

    private static void promise23InTheLastYearOfItsFormatAndBehindIt() {
        for (int last : new int[] {0, 1, 9}) {
            FormatVault vault = new FormatVault();
            vault.setLast(3, last);
            vault.file(3, 1, 0);
            for (int year = 1; year <= last; year++) {
                CHECK.same("begin of " + year, vault.begin(), 0);
            }
            CHECK.same("now is the last year", vault.stateOf(0), KEPT);
            CHECK.same("begin of the next", vault.begin(), 1);
            CHECK.same("now is later", vault.stateOf(0), LOST);
        }
    }

    private static void promise23EndAndFormatOverAtOnce() {
        FormatVault vault = new FormatVault();
        vault.law(0, 2, 0, 5);
        vault.setLast(0, 2);
        vault.setLast(1, 1);
        vault.file(0, 1, 0);
        vault.file(0, 1, 0);
        vault.hold(1, true);
        vault.file(1, 1, 0);
        vault.begin();
        CHECK.same("the format a year ahead of the end", vault.begin(), 1);
        CHECK.same("is lost", vault.stateOf(2), LOST);
        CHECK.same("both over: only the held one is lost", vault.begin(), 1);
        CHECK.same("released", vault.stateOf(0), RELEASED);
        CHECK.same("held, so lost", vault.stateOf(1), LOST);
    }

    private static void promise23HeldOnes() {
        FormatVault vault = new FormatVault();
        vault.law(0, 1, 0, 5);
        vault.setLast(1, 30);
        for (int i = 0; i < 4; i++) {
            vault.file(i % 2, 1, 0);
            vault.hold(i, true);
        }
        Archives.begin(vault, 30);
        for (int i = 0; i < 4; i++) {
            CHECK.same("held far behind its end", vault.stateOf(i), KEPT);
        }
        vault.hold(2, false);
        vault.hold(3, false);
        CHECK.same("the held one of the format that ended", vault.begin(), 1);
        CHECK.same("held, without end", vault.stateOf(0), KEPT);
        CHECK.same("held, ended", vault.stateOf(1), LOST);
        CHECK.same("let go, without end", vault.stateOf(2), RELEASED);
        CHECK.same("let go, ended", vault.stateOf(3), RELEASED);
    }

    private static void promise23CountsEachLostOneOnce() {
        FormatVault vault = new FormatVault();
        for (int format = 0; format < 10; format++) {
            vault.setLast(format, format / 2);
            vault.file(format, 1, format % 5);
        }
        for (int year = 1; year <= 5; year++) {
            CHECK.same("two in the year " + year, vault.begin(), 2);
        }
        CHECK.same("no more", vault.begin(), 0);
    }

    /** Some of that is behind the 512th call, so it is kept, but not promised. */
    private static void promise23UpToTheYear900() {
        FormatVault vault = Archives.inYear(899);
        vault.setBudget(3);
        CHECK.same("begin of the year 900", vault.begin(), 0);
        CHECK.same("it is 900", vault.year(), 900);
        vault.setBudget(4);
        CHECK.notNow("begin in the year 900", () -> vault.begin());
        CHECK.notNow("begin again", () -> vault.begin());
        CHECK.same("it is still 900", vault.year(), 900);
        CHECK.same("left is as it was", vault.left(), 3);
        CHECK.same("a last year that is now", vault.setLast(0, 900), NONE);
        CHECK.outOfRange("a last year ahead of now", () -> vault.setLast(1, 899));
        CHECK.same("the greatest end", vault.endOf(vault.file(0, 1, 0)), 910);
    }

    // ---- promise 24

    private static void promise24CountsFromNothing() {
        FormatVault vault = new FormatVault();
        for (int year = 0; year < 255; year++) {
            CHECK.same("the year", vault.year(), year);
            vault.begin();
        }
        FormatVault far = Archives.inYear(511);
        CHECK.same("with the last of 512 calls", far.year(), 511);
    }

    // ---- promise 25

    private static void promise25JustInTimeAndOneYearLate() {
        for (int reads : new int[] {1, 5, 50}) {
            FormatVault vault = new FormatVault();
            vault.law(0, 100, 0, reads);
            vault.file(0, 1, 0);
            vault.hold(0, true);
            Archives.begin(vault, reads);
            CHECK.same("just in time by " + reads, vault.overdue(), 0);
            vault.begin();
            CHECK.same("one year late by " + reads, vault.overdue(), 1);
            CHECK.same("read", vault.read(0), reads + 1);
            CHECK.same("not overdue any more", vault.overdue(), 0);
            Archives.begin(vault, reads);
            CHECK.same("just in time again", vault.overdue(), 0);
            vault.begin();
            CHECK.same("one year late again", vault.overdue(), 1);
        }
    }

    private static void promise25NoFilesAndAllFiles() {
        FormatVault vault = new FormatVault();
        CHECK.same("no files", vault.overdue(), 0);
        for (int i = 0; i < 40; i++) {
            vault.file(0, 1, i % 5);
        }
        CHECK.same("just taken in", vault.overdue(), 0);
        Archives.begin(vault, 6);
        CHECK.same("all 40", vault.overdue(), 40);
        for (int i = 0; i < 40; i++) {
            vault.read(i);
            CHECK.same("the rest", vault.overdue(), 39 - i);
        }
    }

    private static void promise25OnlyKeptOnes() {
        FormatVault vault = new FormatVault();
        vault.law(0, 2, 0, 1);
        vault.law(1, 50, 0, 1);
        vault.setLast(1, 2);
        vault.file(0, 1, 0);
        vault.file(1, 1, 1);
        vault.file(0, 1, 0);
        vault.hold(2, true);
        Archives.begin(vault, 2);
        CHECK.same("all three are kept", vault.overdue(), 3);
        vault.begin();
        CHECK.same("one is released, one is lost", vault.overdue(), 1);
        CHECK.same("the held one is read", vault.read(2), 3);
        CHECK.same("none", vault.overdue(), 0);
    }

    private static void promise25OnesThatCannotBeRead() {
        FormatVault vault = new FormatVault();
        vault.converter(0, 1, 1, 0);
        vault.file(0, 1, 0);
        vault.move(0, 1);
        vault.law(0, 10, 1000, 1);
        Archives.begin(vault, 2);
        CHECK.notNow("below the least quality", () -> vault.read(0));
        CHECK.same("it is overdue all the same", vault.overdue(), 1);
        vault.law(0, 10, 1000, 2);
        CHECK.same("by the years of its law now", vault.overdue(), 0);
    }

    // ---- promise 26

    private static void promise26NoYearOneYearAndAHundred() {
        for (int year : new int[] {0, 1, 300}) {
            FormatVault vault = Archives.inYear(year);
            int[] ahead = {0, 1, 2, 99, 100, 101, 600};
            int[] due = {0, 1, 2, 99, 100, 100, 100};
            for (int i = 0; i < ahead.length; i++) {
                vault.setLast(0, year + ahead[i]);
                CHECK.same(ahead[i] + " years ahead", vault.promise(0, 0), due[i]);
            }
            vault.setLast(0, 1000);
            CHECK.same("up to 1000", vault.promise(0, 0), 100);
        }
    }

    private static void promise26WithoutEnd() {
        FormatVault vault = new FormatVault();
        vault.converter(0, 1, 0, 0);
        CHECK.same("its own one", vault.promise(0, 0), 100);
        vault.setLast(0, 0);
        CHECK.same("another one, in its last year", vault.promise(0, 0), 100);
        vault.withdraw(0);
        CHECK.same("no way to it", vault.promise(0, 0), 0);
        vault.converter(1, 0, 0, 0);
        CHECK.same("a way that leads back", vault.promise(0, 0), 0);
    }

    private static void promise26LongestOfSeveral() {
        FormatVault vault = Archives.row(0, 0);
        int[] lasts = {5, 30, 12, 12, 40, 8, 20, 3, 19, 6};
        int[] due = {40, 40, 40, 40, 40, 20, 20, 19, 19, 6};
        for (int format = 0; format < 10; format++) {
            vault.setLast(format, lasts[format]);
        }
        for (int format = 0; format < 10; format++) {
            CHECK.same("from " + format, vault.promise(format, 0), due[format]);
        }
    }

    private static void promise26InTheLastYearOfItsFormatAndBehindIt() {
        FormatVault vault = new FormatVault();
        vault.converter(0, 1, 0, 0);
        vault.setLast(0, 2);
        vault.setLast(1, 50);
        Archives.begin(vault, 2);
        CHECK.same("in its last year", vault.promise(0, 0), 48);
        vault.begin();
        CHECK.same("behind it, though there is a way", vault.promise(0, 0), 0);
        vault.setLast(1, NONE);
        CHECK.same("also to a format without end", vault.promise(0, 0), 0);
        CHECK.same("from there", vault.promise(1, 0), 100);
    }

    private static void promise26HavensThatEnded() {
        FormatVault vault = Archives.row(0, 0);
        vault.setLast(0, 6);
        vault.setLast(1, 1);
        for (int format = 2; format < 10; format++) {
            vault.setLast(format, format);
        }
        Archives.begin(vault, 4);
        CHECK.same("up to the year 9, over formats that ended", vault.promise(0, 0), 5);
        vault.withdraw(4);
        CHECK.same("up to the year 6, its own", vault.promise(0, 0), 2);
        Archives.begin(vault, 2);
        CHECK.same("no year, and no less", vault.promise(0, 0), 0);
    }

    private static void promise26JustTheLeastQuality() {
        for (int loss : new int[] {1, 250, 500}) {
            FormatVault vault = new FormatVault();
            vault.converter(0, 1, loss, 0);
            vault.setLast(0, 7);
            vault.law(2, 1, 1000 - loss, 1);
            CHECK.same("just the least", vault.promise(0, 2), 100);
            vault.law(2, 1, 1001 - loss, 1);
            CHECK.same("one below the least", vault.promise(0, 2), 7);
            vault.law(2, 1, 1000, 1);
            CHECK.same("its own one has 1000", vault.promise(0, 2), 7);
        }
        FormatVault row = Archives.row(500, 0);
        for (int format = 0; format < 9; format++) {
            row.setLast(format, 3);
        }
        row.law(0, 1, 1, 1);
        CHECK.same("1 is left at the end of the row", row.promise(0, 0), 100);
        row.law(0, 1, 2, 1);
        CHECK.same("which is below 2", row.promise(0, 0), 3);
    }

    private static void promise26AsksNothingElse() {
        FormatVault vault = new FormatVault();
        vault.setBudget(0);
        vault.begin();
        vault.converter(0, 1, 0, 100);
        vault.setLast(0, 1);
        vault.law(0, 1, 0, 1);
        CHECK.same("not the budget, nor the years of the law", vault.promise(0, 0), 100);
        for (int i = 0; i < 40; i++) {
            vault.file(0, 100, 0);
        }
        CHECK.same("nor whether there is room", vault.promise(0, 0), 100);
    }

    /** A file that is taken in for the years that were promised has a haven, for one more none. */
    private static void promise26IsKept() {
        for (int last : new int[] {1, 2, 42, 98, 99}) {
            FormatVault vault = new FormatVault();
            vault.converter(3, 4, 10, 0);
            vault.setLast(3, 0);
            vault.setLast(4, last);
            int years = vault.promise(3, 0);
            CHECK.same("promised", years, last);
            vault.law(0, years, 990, 5);
            CHECK.same("its haven", vault.haven(vault.file(3, 1, 0)), 4);
            vault.law(0, years + 1, 990, 5);
            CHECK.same("none for one more", vault.haven(vault.file(3, 1, 0)), NONE);
        }
    }

    private static void promise26FirstAndLastFormatAndLaw() {
        FormatVault vault = new FormatVault();
        for (int format = 0; format < 10; format++) {
            vault.setLast(format, 10 + format);
            for (int law = 0; law < 5; law++) {
                CHECK.same("format " + format + " by " + law, vault.promise(format, law),
                        10 + format);
            }
        }
        for (int wrong : Archives.outside(0, 9)) {
            CHECK.noSuch("format " + wrong, () -> vault.promise(wrong, 0));
        }
        for (int wrong : Archives.outside(0, 4)) {
            CHECK.noSuch("law " + wrong, () -> vault.promise(0, wrong));
            CHECK.noSuch("both wrong", () -> vault.promise(10, wrong));
        }
        Archives.begin(vault, 11);
        CHECK.same("a format that ended", vault.promise(0, 0), 0);
        CHECK.noSuch("which is asked behind the law", () -> vault.promise(0, 5));
    }
}
