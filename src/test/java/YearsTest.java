/** Promises 21 to 26: years, budgets and promises. */
public final class YearsTest {
    private static final int NONE = FormatVault.NONE;
    private static final int KEPT = FormatVault.KEPT;
    private static final int RELEASED = FormatVault.RELEASED;
    private static final int LOST = FormatVault.LOST;
    private static final int MIN = Integer.MIN_VALUE;
    private static final int MAX = Integer.MAX_VALUE;
    private static final Check CHECK = new Check("years");

    public static void main(String[] args) {
        promise21SetBudget();
        promise22Left();
        promise23BeginReleasesAheadOfLosing();
        promise23CountsLost();
        promises23And24LastYear();
        promise25Overdue();
        promise25OnlyKept();
        promise26ByYears();
        promise26ByLeastQuality();
        promise26ByNow();
        promise26Refuses();
        CHECK.end();
    }

    private static void begin(FormatVault vault, int years) {
        for (int i = 0; i < years; i++) {
            vault.begin();
        }
    }

    private static void promise21SetBudget() {
        FormatVault vault = new FormatVault();
        CHECK.same("setBudget(0)", vault.setBudget(0), 1000);
        CHECK.same("setBudget(1000000)", vault.setBudget(1000000), 0);
        CHECK.same("left of the year of now", vault.left(), 1000);
        for (int budget : new int[] {-1, 1000001, MIN, MAX}) {
            CHECK.outOfRange("setBudget(" + budget + ")", () -> vault.setBudget(budget));
        }
        vault.begin();
        CHECK.same("left of the next year", vault.left(), 1000000);
        CHECK.same("setBudget(5)", vault.setBudget(5), 1000000);
        CHECK.same("left is as before", vault.left(), 1000000);
        vault.begin();
        vault.begin();
        CHECK.same("for each year from then on", vault.left(), 5);
    }

    private static void promise22Left() {
        FormatVault vault = new FormatVault();
        vault.converter(0, 1, 0, 7);
        vault.converter(1, 0, 0, 0);
        vault.file(0, 100, 0);
        CHECK.same("left at first", vault.left(), 1000);
        vault.move(0, 1);
        CHECK.same("left behind a move", vault.left(), 300);
        vault.move(0, 0);
        CHECK.same("left behind a move for nothing", vault.left(), 300);
        CHECK.notNow("a move for more than is left", () -> vault.move(0, 1));
        CHECK.same("left behind a refusal", vault.left(), 300);
        vault.begin();
        CHECK.same("nothing is saved for the next year", vault.left(), 1000);
    }

    private static void promise23BeginReleasesAheadOfLosing() {
        FormatVault vault = new FormatVault();
        vault.law(0, 2, 0, 5);
        vault.setLast(0, 2);
        vault.file(0, 1, 0);
        vault.file(0, 1, 0);
        vault.file(0, 1, 1);
        vault.hold(1, true);
        CHECK.same("begin 1", vault.begin(), 0);
        CHECK.same("begin 2", vault.begin(), 0);
        CHECK.same("kept in the year of its end", vault.stateOf(0), KEPT);
        CHECK.same("begin 3", vault.begin(), 2);
        CHECK.same("released, not lost", vault.stateOf(0), RELEASED);
        CHECK.same("a held one is lost", vault.stateOf(1), LOST);
        CHECK.same("one ahead of its end is lost", vault.stateOf(2), LOST);
    }

    private static void promise23CountsLost() {
        FormatVault vault = new FormatVault();
        vault.setLast(0, 0);
        vault.setLast(1, 1);
        for (int i = 0; i < 5; i++) {
            vault.file(i < 3 ? 0 : 1, 1, 0);
        }
        CHECK.same("three are lost", vault.begin(), 3);
        CHECK.same("two are lost", vault.begin(), 2);
        CHECK.same("none is lost again", vault.begin(), 0);
    }

    /** The year 900 is behind the 512th call, so what happens there is kept, but not promised. */
    private static void promises23And24LastYear() {
        FormatVault early = new FormatVault();
        for (int i = 0; i < 250; i++) {
            CHECK.same("year", early.year(), i);
            early.begin();
        }
        FormatVault vault = new FormatVault();
        vault.setLast(0, 899);
        vault.setLast(1, 900);
        begin(vault, 899);
        vault.file(0, 1, 0);
        CHECK.same("year 899", vault.year(), 899);
        CHECK.same("begin of the year 900", vault.begin(), 1);
        CHECK.same("year 900", vault.year(), 900);
        vault.setBudget(1);
        vault.file(1, 1, 0);
        CHECK.notNow("begin behind the year 900", () -> vault.begin());
        CHECK.same("it is still the year 900", vault.year(), 900);
        CHECK.same("no new budget", vault.left(), 1000);
        CHECK.same("nothing is lost", vault.stateOf(1), KEPT);
        CHECK.same("setLast to 1000", vault.setLast(2, 1000), NONE);
        CHECK.same("promise in the year 900", vault.promise(2, 0), 100);
    }

    private static void promise25Overdue() {
        FormatVault vault = new FormatVault();
        vault.law(1, 100, 0, 1);
        vault.law(2, 100, 0, 50);
        vault.file(0, 1, 0);
        vault.file(0, 1, 1);
        vault.file(0, 1, 2);
        vault.begin();
        CHECK.same("none behind 1 year", vault.overdue(), 0);
        vault.begin();
        CHECK.same("one behind 2 years", vault.overdue(), 1);
        vault.read(1);
        CHECK.same("none when it is read", vault.overdue(), 0);
        begin(vault, 2);
        CHECK.same("it is again behind 2 years", vault.overdue(), 1);
        vault.read(1);
        vault.begin();
        CHECK.same("none behind 5 years", vault.overdue(), 0);
        vault.begin();
        CHECK.same("two behind 6 years", vault.overdue(), 2);
        CHECK.same("a question changes nothing", vault.overdue(), 2);
    }

    private static void promise25OnlyKept() {
        FormatVault vault = new FormatVault();
        vault.law(0, 3, 0, 1);
        vault.law(1, 100, 0, 1);
        vault.setLast(1, 3);
        vault.file(0, 1, 0);
        vault.file(1, 1, 1);
        vault.file(0, 1, 1);
        vault.law(2, 100, 1000, 1);
        vault.converter(0, 2, 10, 0);
        vault.file(0, 1, 2);
        vault.move(3, 2);
        begin(vault, 3);
        CHECK.same("four are overdue", vault.overdue(), 4);
        vault.begin();
        CHECK.same("without the released and the lost one", vault.overdue(), 2);
    }

    private static void promise26ByYears() {
        FormatVault vault = new FormatVault();
        CHECK.same("without end", vault.promise(0, 0), 100);
        vault.setLast(0, 0);
        CHECK.same("for no year", vault.promise(0, 0), 0);
        vault.setLast(0, 1);
        CHECK.same("for 1 year", vault.promise(0, 0), 1);
        vault.setLast(0, 99);
        CHECK.same("for 99 years", vault.promise(0, 0), 99);
        vault.setLast(0, 100);
        CHECK.same("for 100 years", vault.promise(0, 0), 100);
        vault.setLast(0, 101);
        CHECK.same("up to 100 years", vault.promise(0, 0), 100);
        vault.setLast(0, 7);
        vault.converter(0, 1, 100, 100);
        vault.converter(1, 2, 100, 100);
        vault.setLast(1, 30);
        vault.setLast(2, 20);
        CHECK.same("by the longest of the formats", vault.promise(0, 0), 30);
        vault.setLast(2, 40);
        CHECK.same("behind two converters", vault.promise(0, 0), 40);
        vault.law(0, 1, 0, 1);
        CHECK.same("the years of the law are not asked", vault.promise(0, 0), 40);
        vault.setBudget(0);
        vault.begin();
        CHECK.same("the budget is not asked", vault.promise(0, 0), 39);
    }

    private static void promise26ByLeastQuality() {
        FormatVault vault = new FormatVault();
        vault.converter(0, 1, 100, 1);
        vault.converter(1, 2, 100, 1);
        vault.setLast(0, 5);
        vault.setLast(1, 50);
        vault.law(1, 10, 810, 5);
        vault.law(2, 10, 811, 5);
        vault.law(3, 10, 900, 5);
        vault.law(4, 10, 901, 5);
        CHECK.same("least 810", vault.promise(0, 1), 100);
        CHECK.same("least 811", vault.promise(0, 2), 50);
        CHECK.same("least 900", vault.promise(0, 3), 50);
        CHECK.same("least 901", vault.promise(0, 4), 5);
        vault.law(4, 10, 1000, 5);
        CHECK.same("least 1000 in its own format", vault.promise(0, 4), 5);
        vault.withdraw(0);
        CHECK.same("without the converter", vault.promise(0, 1), 5);
    }

    private static void promise26ByNow() {
        FormatVault vault = new FormatVault();
        vault.converter(0, 1, 0, 0);
        vault.converter(2, 1, 0, 0);
        vault.setLast(0, 3);
        vault.setLast(2, 3);
        vault.setLast(1, 20);
        begin(vault, 3);
        CHECK.same("in the last year", vault.promise(0, 0), 17);
        vault.begin();
        CHECK.same("the format cannot be read any more", vault.promise(0, 0), 0);
        CHECK.same("the other one can", vault.promise(1, 0), 16);
        begin(vault, 16);
        CHECK.same("for no year any more", vault.promise(1, 0), 0);
        FormatVault ended = new FormatVault();
        ended.converter(0, 1, 0, 0);
        ended.setLast(0, 5);
        ended.setLast(1, 2);
        begin(ended, 4);
        CHECK.same("a haven that ended counts for nothing", ended.promise(0, 0), 1);
        ended.begin();
        CHECK.same("nor makes less than nothing", ended.promise(0, 0), 0);
        for (int i = 0; i < 40; i++) {
            ended.file(3, 1, 0);
        }
        CHECK.same("it does not matter that there are 40 files", ended.promise(3, 0), 100);
    }

    private static void promise26Refuses() {
        FormatVault vault = new FormatVault();
        for (int format : new int[] {-1, 10, MIN, MAX}) {
            CHECK.noSuch("promise of format " + format, () -> vault.promise(format, 0));
        }
        for (int law : new int[] {-1, 5, MIN, MAX}) {
            CHECK.noSuch("promise by law " + law, () -> vault.promise(0, law));
        }
        vault.setLast(0, 0);
        vault.begin();
        CHECK.noSuch("promise by no law, ended", () -> vault.promise(0, 5));
    }
}
