/** The boundaries that promises 14 to 20 name. */
public final class HavenEdgesTest {
    private static final int NONE = FormatVault.NONE;
    private static final int KEPT = FormatVault.KEPT;
    private static final int RELEASED = FormatVault.RELEASED;
    private static final int LOST = FormatVault.LOST;
    private static final Check CHECK = new Check("edges of havens");

    public static void main(String[] args) {
        promise14NoneAndAll();
        promise14JustWhatIsLeft();
        promise14NothingLeftOfTheBudget();
        promise14RisingLastYears();
        promise14RisingNumbersOfTheSameLastYear();
        promise14OthersMayStillBeMoved();
        promise14SafeOnesStay();
        promise14InTheLastYear();
        promise14ToHavensNotToTheCheapest();
        promise14IsNoReadingAndNoNewEnd();
        promise15NoneYet();
        promise15ItsOwnOne();
        promise15GreaterByOne();
        promise15CheaperByOne();
        promise15LowestOfSeveral();
        promise15JustTheLeastQuality();
        promise15ByTheBestWayAlone();
        promise15QualityThatItHas();
        promise15RoundedDownAtEachStep();
        promise15NothingLeftOfItsQuality();
        promise15HeldOneNeedsAFormatWithoutEnd();
        promise15DoesNotAskTheBudget();
        promise15OnlyAKeptOne();
        promise16InTheYearOfItsEnd();
        promise16HeldOne();
        promise16EndThatIsOver();
        promise16DoesNotAskTheQuality();
        promise16OnlyAKeptOne();
        promise17FirstAndLastYearOfEachState();
        promise17ForGood();
        promises18And19LastOnes();
        promise20EndStays();
        promises15To20FirstAndLastFile();
        CHECK.end();
    }

    // ---- promise 14

    private static void promise14NoneAndAll() {
        FormatVault vault = new FormatVault();
        CHECK.same("no files", vault.moveAhead(), 0);
        vault.converter(0, 1, 0, 0);
        for (int i = 0; i < 40; i++) {
            vault.file(0, 1, i % 5);
        }
        CHECK.same("all are safe", vault.moveAhead(), 0);
        vault.setLast(0, 9);
        CHECK.same("all 40", vault.moveAhead(), 40);
        CHECK.same("none again", vault.moveAhead(), 0);
        for (int i = 0; i < 40; i++) {
            CHECK.same("moved: " + i, vault.formatOf(i), 1);
        }
        vault.setLast(1, 9);
        CHECK.same("none has a haven", vault.moveAhead(), 0);
    }

    private static void promise14JustWhatIsLeft() {
        for (int budget = 9; budget <= 11; budget++) {
            FormatVault vault = new FormatVault();
            vault.setBudget(budget);
            vault.begin();
            vault.converter(0, 1, 0, 5);
            vault.setLast(0, 5);
            vault.file(0, 2, 0);
            CHECK.same("for 10 of " + budget, vault.moveAhead(), budget < 10 ? 0 : 1);
            CHECK.same("left of " + budget, vault.left(), budget < 10 ? 9 : budget - 10);
            CHECK.same("its format", vault.formatOf(0), budget < 10 ? 0 : 1);
        }
    }

    private static void promise14NothingLeftOfTheBudget() {
        FormatVault vault = new FormatVault();
        vault.setBudget(0);
        vault.begin();
        vault.converter(0, 1, 0, 1);
        vault.converter(2, 3, 0, 0);
        vault.setLast(0, 5);
        vault.setLast(2, 5);
        vault.file(0, 1, 0);
        vault.file(2, 100, 0);
        CHECK.same("for nothing alone", vault.moveAhead(), 1);
        CHECK.same("for 1 it stays", vault.formatOf(0), 0);
        CHECK.same("for nothing it is moved", vault.formatOf(1), 3);
        CHECK.same("left", vault.left(), 0);
    }

    /** Of ten files in formats 0 to 9 but 5 each is to be moved; what is left is enough for n. */
    private static void promise14RisingLastYears() {
        int[] lasts = {4, 2, 8, 1, 9, NONE, 3, 7, 5, 6};
        int[] order = {3, 1, 6, 0, 8, 9, 7, 2, 4};
        for (int n = 0; n < 10; n++) {
            FormatVault vault = new FormatVault();
            for (int format = 0; format < 10; format++) {
                vault.setLast(format, lasts[format]);
                vault.file(format, 1, 0);
                if (format != 5) {
                    vault.converter(format, 5, 10, 1);
                }
            }
            vault.setBudget(n);
            vault.begin();
            CHECK.same("moveAhead for " + n, vault.moveAhead(), n);
            for (int i = 0; i < 9; i++) {
                CHECK.same("file " + order[i] + " for " + n, vault.formatOf(order[i]),
                        i < n ? 5 : order[i]);
            }
        }
    }

    private static void promise14RisingNumbersOfTheSameLastYear() {
        for (int n = 0; n <= 6; n++) {
            FormatVault vault = new FormatVault();
            for (int format = 0; format < 3; format++) {
                vault.converter(format, 5, 10, 1);
                vault.setLast(format, 7);
            }
            for (int file = 0; file < 6; file++) {
                vault.file(2 - file % 3, 1, 0);
            }
            vault.setBudget(n);
            vault.begin();
            CHECK.same("moveAhead for " + n, vault.moveAhead(), n);
            for (int file = 0; file < 6; file++) {
                CHECK.same("file " + file + " for " + n, vault.formatOf(file) == 5, file < n);
            }
        }
    }

    private static void promise14OthersMayStillBeMoved() {
        FormatVault vault = new FormatVault();
        vault.converter(0, 1, 0, 10);
        vault.setLast(0, 5);
        int[] sizes = {60, 41, 40, 1, 100};
        for (int size : sizes) {
            vault.file(0, size, 0);
        }
        CHECK.same("the first, the third", vault.moveAhead(), 2);
        int[] due = {1, 0, 1, 0, 0};
        for (int file = 0; file < 5; file++) {
            CHECK.same("file " + file, vault.formatOf(file), due[file]);
        }
        vault.begin();
        CHECK.same("in the next year two more", vault.moveAhead(), 2);
        CHECK.same("left", vault.left(), 1000 - 420);
        vault.begin();
        CHECK.same("and in the next one the last", vault.moveAhead(), 1);
        CHECK.same("nothing is left", vault.left(), 0);
    }

    private static void promise14SafeOnesStay() {
        FormatVault vault = new FormatVault();
        vault.converter(0, 1, 0, 0);
        vault.setLast(0, 10);
        vault.file(0, 1, 0);
        vault.law(1, 11, 0, 5);
        vault.file(0, 1, 1);
        vault.file(0, 1, 0);
        vault.hold(2, true);
        CHECK.same("two are not safe", vault.moveAhead(), 2);
        CHECK.same("readable in the year of its end", vault.formatOf(0), 0);
        CHECK.same("not readable in the year of its end", vault.formatOf(1), 1);
        CHECK.same("held", vault.formatOf(2), 1);
    }

    private static void promise14InTheLastYear() {
        FormatVault vault = new FormatVault();
        vault.converter(0, 1, 0, 0);
        vault.setLast(0, 3);
        vault.file(0, 1, 0);
        vault.file(0, 1, 0);
        vault.law(0, 10, 1000, 5);
        Archives.begin(vault, 3);
        CHECK.same("in the last year of the format", vault.moveAhead(), 2);
        CHECK.same("none is lost then", vault.begin(), 0);
        FormatVault late = new FormatVault();
        late.converter(0, 1, 0, 0);
        late.setLast(0, 3);
        late.file(0, 1, 0);
        Archives.begin(late, 4);
        CHECK.same("a year too late", late.moveAhead(), 0);
        CHECK.same("it is lost", late.stateOf(0), LOST);
        CHECK.same("where it was", late.formatOf(0), 0);
    }

    private static void promise14ToHavensNotToTheCheapest() {
        FormatVault vault = new FormatVault();
        vault.converter(0, 1, 1, 0);
        vault.converter(0, 2, 0, 100);
        vault.setLast(0, 5);
        vault.file(0, 11, 0);
        vault.file(0, 10, 0);
        CHECK.same("too dear for the first", vault.moveAhead(), 1);
        CHECK.same("it does not go to another one", vault.formatOf(0), 0);
        CHECK.same("the second goes to its haven", vault.formatOf(1), 2);
    }

    private static void promise14IsNoReadingAndNoNewEnd() {
        FormatVault vault = new FormatVault();
        vault.converter(0, 1, 100, 0);
        vault.setLast(0, 9);
        vault.file(0, 1, 0);
        vault.law(0, 50, 0, 2);
        Archives.begin(vault, 3);
        CHECK.same("moved in the year 3", vault.moveAhead(), 1);
        CHECK.same("it is still overdue", vault.overdue(), 1);
        CHECK.same("its end is that of the year 0", vault.endOf(0), 10);
        CHECK.same("it is not held", vault.hold(0, false), false);
        CHECK.same("it was read in the year 0", vault.read(0), 3);
    }

    // ---- promise 15

    private static void promise15NoneYet() {
        FormatVault vault = new FormatVault();
        vault.setLast(0, 9);
        vault.file(0, 1, 0);
        CHECK.same("no converter", vault.haven(0), NONE);
        vault.converter(1, 0, 0, 0);
        CHECK.same("none from its format", vault.haven(0), NONE);
        vault.converter(0, 1, 0, 0);
        CHECK.same("one", vault.haven(0), 1);
        vault.withdraw(1);
        CHECK.same("none again", vault.haven(0), NONE);
    }

    private static void promise15ItsOwnOne() {
        for (int format = 0; format < 10; format++) {
            FormatVault vault = new FormatVault();
            vault.file(format, 1, 0);
            CHECK.same("its own one is " + format, vault.haven(0), format);
            vault.setLast(format, 10);
            CHECK.same("with an end that is late enough", vault.haven(0), format);
            vault.setLast(format, 9);
            CHECK.same("with one that is not", vault.haven(0), NONE);
        }
        FormatVault vault = new FormatVault();
        vault.converter(5, 4, 0, 1);
        vault.converter(5, 6, 0, 0);
        vault.converter(5, 3, 1, 0);
        vault.file(5, 1, 0);
        CHECK.same("dearer, higher or worse ones do not count", vault.haven(0), 5);
        vault.converter(5, 4, 0, 0);
        CHECK.same("a lower one for nothing does", vault.haven(0), 4);
    }

    private static void promise15GreaterByOne() {
        FormatVault vault = new FormatVault();
        vault.setLast(0, 9);
        vault.file(0, 1, 0);
        vault.converter(0, 5, 100, 0);
        vault.converter(0, 6, 100, 0);
        CHECK.same("as great, the lower one", vault.haven(0), 5);
        vault.converter(0, 9, 99, 100);
        CHECK.same("greater by one, though dear and high", vault.haven(0), 9);
        vault.converter(0, 1, 100, 0);
        CHECK.same("smaller by one, though cheap and low", vault.haven(0), 9);
    }

    private static void promise15CheaperByOne() {
        FormatVault vault = new FormatVault();
        vault.setLast(0, 9);
        vault.file(0, 1, 0);
        vault.converter(0, 5, 100, 10);
        vault.converter(0, 6, 100, 9);
        CHECK.same("cheaper by one, though higher", vault.haven(0), 6);
        vault.converter(0, 1, 100, 10);
        CHECK.same("dearer by one, though lower", vault.haven(0), 6);
        vault.converter(0, 2, 50, 4);
        vault.converter(2, 9, 53, 4);
        vault.setLast(2, 9);
        CHECK.same("cheaper behind two converters, 899.65", vault.haven(0), 6);
        vault.converter(2, 9, 52, 4);
        CHECK.same("cheaper behind two converters, 900.6", vault.haven(0), 9);
    }

    private static void promise15LowestOfSeveral() {
        FormatVault vault = new FormatVault();
        vault.setLast(9, 9);
        vault.file(9, 1, 0);
        for (int format = 8; format >= 0; format--) {
            vault.converter(9, format, 7, 7);
            CHECK.same("the lowest is " + format, vault.haven(0), format);
        }
        for (int format = 0; format < 9; format++) {
            CHECK.same("the lowest is still " + format, vault.haven(0), format);
            vault.setLast(format, 9);
        }
        CHECK.same("none is left", vault.haven(0), NONE);
    }

    private static void promise15JustTheLeastQuality() {
        for (int loss : new int[] {0, 1, 500}) {
            FormatVault vault = new FormatVault();
            vault.converter(0, 1, loss, 0);
            vault.setLast(0, 9);
            vault.file(0, 1, 0);
            vault.law(0, 10, 1000 - loss, 5);
            CHECK.same("just the least", vault.haven(0), 1);
            vault.law(0, 10, Math.min(1000, 1001 - loss), 5);
            CHECK.same("one below the least", vault.haven(0), loss == 0 ? 1 : NONE);
            CHECK.same("none is moved then", vault.moveAhead(), loss == 0 ? 1 : 0);
        }
        FormatVault own = new FormatVault();
        own.converter(0, 1, 100, 0);
        own.file(0, 1, 0);
        own.move(0, 1);
        own.law(0, 10, 900, 5);
        CHECK.same("its own quality is just the least", own.haven(0), 1);
        own.law(0, 10, 901, 5);
        CHECK.same("its own quality is one below", own.haven(0), NONE);
    }

    /** A cheaper way that would do does not count: the best way is dear, and the haven another. */
    private static void promise15ByTheBestWayAlone() {
        FormatVault vault = new FormatVault();
        vault.setLast(0, 9);
        vault.file(0, 1, 0);
        vault.converter(0, 1, 0, 0);
        vault.setLast(1, 9);
        vault.converter(0, 2, 10, 0);
        vault.converter(1, 2, 9, 50);
        vault.converter(0, 3, 9, 49);
        CHECK.same("991 for 50 against 991 for 49", vault.haven(0), 3);
        vault.withdraw(3);
        vault.converter(0, 3, 9, 51);
        CHECK.same("991 for 50 against 991 for 51", vault.haven(0), 2);
    }

    private static void promise15QualityThatItHas() {
        FormatVault vault = new FormatVault();
        vault.converter(0, 1, 500, 0);
        vault.converter(1, 2, 499, 0);
        vault.converter(1, 3, 500, 0);
        vault.setLast(1, 5);
        vault.file(1, 1, 0);
        vault.file(0, 1, 0);
        vault.move(1, 1);
        vault.law(0, 10, 251, 5);
        CHECK.same("501 of 1000", vault.haven(0), 2);
        CHECK.same("250 of 500", vault.haven(1), NONE);
        vault.law(0, 10, 250, 5);
        CHECK.same("250 by both, the lower one", vault.haven(1), 2);
        vault.setLast(2, 9);
        CHECK.same("the other one", vault.haven(1), 3);
        CHECK.same("both are moved", vault.moveAhead(), 2);
        CHECK.same("500 of 1000", vault.qualityOf(0), 500);
        CHECK.same("250 of 500", vault.qualityOf(1), 250);
    }

    /** Over 2 it is 499.5 and then 498.5, over 4 it is 499. */
    private static void promise15RoundedDownAtEachStep() {
        FormatVault vault = new FormatVault();
        vault.converter(0, 1, 500, 0);
        vault.converter(1, 2, 1, 0);
        vault.converter(2, 3, 1, 0);
        vault.converter(1, 4, 2, 1);
        vault.setLast(1, 5);
        vault.setLast(2, 5);
        vault.file(1, 1, 0);
        vault.file(0, 1, 0);
        vault.move(1, 1);
        CHECK.same("998 by both, so the cheaper one", vault.haven(0), 3);
        CHECK.same("498 against 499", vault.haven(1), 4);
        vault.law(0, 10, 499, 5);
        CHECK.same("499 is enough", vault.haven(1), 4);
        vault.withdraw(3);
        CHECK.same("498 is not", vault.haven(1), NONE);
    }

    private static void promise15NothingLeftOfItsQuality() {
        FormatVault vault = new FormatVault();
        vault.converter(0, 1, 500, 0);
        vault.converter(1, 0, 500, 0);
        vault.converter(0, 3, 1, 7);
        vault.converter(0, 4, 500, 6);
        int file = Archives.worn(vault, 0, 0);
        CHECK.same("its format", vault.formatOf(file), 0);
        CHECK.same("its own one, for nothing", vault.haven(file), 0);
        vault.setLast(0, 5);
        CHECK.same("nothing by all, so the cheapest", vault.haven(file), 1);
        vault.setLast(1, 5);
        CHECK.same("nothing by both, so the cheaper", vault.haven(file), 4);
        vault.law(0, 10, 1, 5);
        CHECK.same("below the least", vault.haven(file), NONE);
    }

    private static void promise15HeldOneNeedsAFormatWithoutEnd() {
        FormatVault vault = new FormatVault();
        vault.converter(0, 1, 0, 0);
        vault.converter(0, 2, 500, 100);
        vault.setLast(0, 5);
        vault.setLast(1, 1000);
        vault.file(0, 1, 0);
        CHECK.same("not held", vault.haven(0), 1);
        vault.hold(0, true);
        CHECK.same("held", vault.haven(0), 2);
        vault.setLast(2, 1000);
        CHECK.same("held, none without end", vault.haven(0), NONE);
        vault.hold(0, false);
        CHECK.same("not held any more", vault.haven(0), 1);
    }

    private static void promise15DoesNotAskTheBudget() {
        FormatVault vault = new FormatVault();
        vault.converter(0, 1, 0, 100);
        vault.setLast(0, 5);
        vault.file(0, 100, 0);
        CHECK.same("too dear", vault.moveAhead(), 0);
        CHECK.same("but a haven", vault.haven(0), 1);
    }

    private static void promise15OnlyAKeptOne() {
        FormatVault vault = new FormatVault();
        vault.law(0, 1, 0, 5);
        vault.converter(0, 2, 0, 0);
        vault.converter(1, 2, 0, 0);
        vault.setLast(1, 1);
        vault.file(0, 1, 0);
        vault.file(1, 1, 1);
        vault.begin();
        CHECK.same("in the year of its end", vault.haven(0), 0);
        CHECK.same("in the last year of its format", vault.haven(1), 2);
        vault.begin();
        CHECK.same("released", vault.haven(0), NONE);
        CHECK.same("lost", vault.haven(1), NONE);
    }

    // ---- promise 16

    private static void promise16InTheYearOfItsEnd() {
        for (int years : new int[] {1, 10, 100}) {
            FormatVault vault = Archives.inYear(2);
            vault.law(0, years, 0, 5);
            vault.file(7, 1, 0);
            CHECK.same("without end", vault.isSafe(0), true);
            vault.setLast(7, 1 + years);
            CHECK.same("up to the year ahead of its end", vault.isSafe(0), false);
            vault.setLast(7, 2 + years);
            CHECK.same("up to the year of its end", vault.isSafe(0), true);
            vault.setLast(7, 3 + years);
            CHECK.same("up to the year behind it", vault.isSafe(0), true);
            vault.setLast(7, 2);
            CHECK.same("up to now", vault.isSafe(0), false);
        }
    }

    private static void promise16HeldOne() {
        FormatVault vault = new FormatVault();
        vault.file(0, 1, 0);
        vault.hold(0, true);
        CHECK.same("in a format without end", vault.isSafe(0), true);
        for (int last : new int[] {0, 10, 11, 999, 1000}) {
            vault.setLast(0, last);
            CHECK.same("in one up to " + last, vault.isSafe(0), false);
        }
        vault.hold(0, false);
        CHECK.same("let go, up to 1000", vault.isSafe(0), true);
    }

    /** As it was held, the year of its end may be over; its format could be read in that year. */
    private static void promise16EndThatIsOver() {
        FormatVault vault = new FormatVault();
        vault.law(0, 1, 0, 5);
        vault.setLast(0, 4);
        vault.file(0, 1, 0);
        vault.hold(0, true);
        Archives.begin(vault, 4);
        CHECK.same("held behind its end", vault.isSafe(0), false);
        vault.hold(0, false);
        CHECK.same("let go behind its end", vault.isSafe(0), true);
        CHECK.same("its haven is its own format", vault.haven(0), 0);
        CHECK.same("it has not to be moved", vault.moveAhead(), 0);
        vault.setLast(0, 5);
        CHECK.same("with a later last year", vault.isSafe(0), true);
        vault.begin();
        CHECK.same("released", vault.stateOf(0), RELEASED);
    }

    private static void promise16DoesNotAskTheQuality() {
        FormatVault vault = new FormatVault();
        vault.converter(0, 1, 500, 0);
        vault.file(0, 1, 0);
        vault.move(0, 1);
        vault.law(0, 10, 1000, 5);
        CHECK.same("far below the least", vault.isSafe(0), true);
        CHECK.same("though it has no haven", vault.haven(0), NONE);
        CHECK.same("it is not moved", vault.moveAhead(), 0);
    }

    private static void promise16OnlyAKeptOne() {
        FormatVault vault = new FormatVault();
        vault.law(0, 1, 0, 5);
        vault.setLast(1, 1);
        vault.file(0, 1, 0);
        vault.file(1, 1, 0);
        vault.file(1, 1, 0);
        vault.hold(2, true);
        vault.begin();
        CHECK.same("in the year of its end", vault.isSafe(0), true);
        CHECK.same("in that and the last one of its format", vault.isSafe(1), true);
        CHECK.same("held in the last year of its format", vault.isSafe(2), false);
        vault.begin();
        CHECK.same("released, in a format without end", vault.isSafe(0), false);
        CHECK.same("released, in one that ended", vault.isSafe(1), false);
        CHECK.same("lost", vault.isSafe(2), false);
    }

    // ---- promises 17 to 20

    private static void promise17FirstAndLastYearOfEachState() {
        FormatVault vault = new FormatVault();
        vault.law(0, 3, 0, 5);
        vault.setLast(1, 2);
        vault.setLast(2, 3);
        vault.setLast(3, 4);
        for (int format = 0; format < 4; format++) {
            vault.file(format, 1, 0);
        }
        int[][] due = {
            {KEPT, KEPT, KEPT, KEPT},
            {KEPT, KEPT, KEPT, KEPT},
            {KEPT, KEPT, KEPT, KEPT},
            {KEPT, LOST, KEPT, KEPT},
            {RELEASED, LOST, RELEASED, RELEASED},
            {RELEASED, LOST, RELEASED, RELEASED},
        };
        for (int year = 0; year < due.length; year++) {
            for (int file = 0; file < 4; file++) {
                CHECK.same("file " + file + " in " + year, vault.stateOf(file), due[year][file]);
            }
            vault.begin();
        }
    }

    private static void promise17ForGood() {
        FormatVault vault = new FormatVault();
        vault.law(0, 1, 0, 5);
        vault.setLast(1, 1);
        vault.file(0, 1, 0);
        vault.file(1, 1, 1);
        Archives.begin(vault, 2);
        vault.law(0, 100, 0, 5);
        vault.law(1, 1, 0, 5);
        vault.converter(1, 0, 0, 0);
        vault.moveAhead();
        for (int year = 0; year < 120; year++) {
            vault.begin();
            CHECK.same("released for good", vault.stateOf(0), RELEASED);
            CHECK.same("lost for good", vault.stateOf(1), LOST);
        }
    }

    private static void promises18And19LastOnes() {
        FormatVault vault = new FormatVault();
        vault.law(0, 1, 0, 5);
        vault.setLast(9, 1);
        vault.converter(0, 9, 123, 0);
        vault.converter(0, 8, 321, 0);
        vault.file(0, 1, 1);
        vault.file(0, 1, 0);
        vault.file(0, 1, 0);
        CHECK.same("its first format", vault.formatOf(0), 0);
        CHECK.same("its first quality", vault.qualityOf(0), 1000);
        vault.move(0, 9);
        vault.move(1, 8);
        for (int year = 0; year < 4; year++) {
            CHECK.same("format in " + year, vault.formatOf(0), 9);
            CHECK.same("quality in " + year, vault.qualityOf(0), 877);
            CHECK.same("format in " + year, vault.formatOf(1), 8);
            CHECK.same("quality in " + year, vault.qualityOf(1), 679);
            CHECK.same("format in " + year, vault.formatOf(2), 0);
            CHECK.same("quality in " + year, vault.qualityOf(2), 1000);
            vault.begin();
        }
        CHECK.same("lost", vault.stateOf(0), LOST);
        CHECK.same("released", vault.stateOf(1), RELEASED);
    }

    private static void promise20EndStays() {
        FormatVault vault = Archives.inYear(7);
        vault.law(0, 1, 0, 5);
        vault.converter(0, 1, 0, 0);
        vault.file(0, 1, 0);
        vault.hold(0, true);
        vault.move(0, 1);
        vault.law(0, 100, 0, 5);
        vault.begin();
        vault.read(0);
        CHECK.same("in the year of its end", vault.endOf(0), 8);
        Archives.begin(vault, 50);
        CHECK.same("held behind it", vault.endOf(0), 8);
        vault.hold(0, false);
        vault.begin();
        CHECK.same("released", vault.endOf(0), 8);
        CHECK.same("it is that", vault.stateOf(0), RELEASED);
    }

    private static void promises15To20FirstAndLastFile() {
        FormatVault vault = new FormatVault();
        for (int i = 0; i < 40; i++) {
            vault.file(i % 10, 1, 0);
        }
        for (int file : new int[] {0, 1, 38, 39}) {
            CHECK.same("haven of " + file, vault.haven(file), file % 10);
            CHECK.same("isSafe of " + file, vault.isSafe(file), true);
            CHECK.same("stateOf " + file, vault.stateOf(file), KEPT);
            CHECK.same("formatOf " + file, vault.formatOf(file), file % 10);
            CHECK.same("qualityOf " + file, vault.qualityOf(file), 1000);
            CHECK.same("endOf " + file, vault.endOf(file), 10);
        }
        for (int file : Archives.outside(0, 39)) {
            CHECK.noSuch("haven of " + file, () -> vault.haven(file));
            CHECK.noSuch("isSafe of " + file, () -> vault.isSafe(file));
            CHECK.noSuch("stateOf " + file, () -> vault.stateOf(file));
            CHECK.noSuch("formatOf " + file, () -> vault.formatOf(file));
            CHECK.noSuch("qualityOf " + file, () -> vault.qualityOf(file));
            CHECK.noSuch("endOf " + file, () -> vault.endOf(file));
        }
    }
}
