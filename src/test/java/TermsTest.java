/**
 * The document once more from its first line: 'What it is' and 'Terms', in their order, a method
 * for each sentence, which is told above it.
 */
public final class TermsTest {
    private static final int NONE = FormatVault.NONE;
    private static final int KEPT = FormatVault.KEPT;
    private static final int RELEASED = FormatVault.RELEASED;
    private static final int LOST = FormatVault.LOST;
    private static final Check CHECK = new Check("terms");

    public static void main(String[] args) {
        whatItIs();
        usedForSoManyCalls();
        formatsAndConverters();
        lawsAndFiles();
        safetyAndHavens();
        movingAndYears();
        exceptions();
        constants();
        CHECK.end();
    }

    private static void formatsAndConverters() {
        questionsChangeNothing();
        yearsAreCountedFrom0();
        formats0To9WithoutEndAtFirst();
        convertersAreNumberedFrom0();
        converterUntilItIsWithdrawn();
        qualityIsRoundedDown();
        wayLeadsOnFromFormatToFormat();
        wayComesToNoFormatTwice();
        qualityAndCostOfAWay();
        bestWayByQualityCostLengthNumbers();
        bestWayToItself();
    }

    private static void lawsAndFiles() {
        lawsAtFirst();
        filesAreNumberedFrom0();
        endIsByTheLawThen();
        releasedOrLostForGood();
        readInTheYearInWhichItWasTakenIn();
        canBeReadAsLongAs();
        heldIsNotReleased();
    }

    private static void safetyAndHavens() {
        heldHasToBeReadableForEver();
        anotherOneInTheYearOfItsEnd();
        alsoIfThatYearIsOver();
        havenIsTheGreatestOfTheSafeOnes();
        noHavenIfThereIsNoSuchFormat();
        qualityBehindAWayIsThatOfTheFile();
    }

    private static void movingAndYears() {
        budgetForEachYear();
        moveCostsItsSizeTimesTheCost();
        moveAllAhead();
        yearBegins();
        overdueIsLaterThan();
    }

    // ---- what it is

    /** "An archive of files by formats: ..., and what may be promised when ... is withdrawn." */
    private static void whatItIs() {
        FormatVault vault = new FormatVault();
        vault.setLast(0, 3);
        vault.converter(0, 1, 100, 1);
        vault.converter(1, 2, 0, 1);
        vault.converter(0, 2, 150, 0);
        CHECK.same("the way with the least loss", vault.quality(0, 2), 900);
        vault.law(0, 5, 850, 2);
        vault.setBudget(20);
        CHECK.same("promised", vault.promise(0, 0), 100);
        CHECK.same("a file", vault.file(0, 10, 0), 0);
        CHECK.same("kept longer than its format can be read", vault.isSafe(0), false);
        CHECK.same("moved ahead", vault.moveAhead(), 1);
        CHECK.same("by the cheaper way of two", vault.formatOf(0), 1);
        CHECK.same("the cost", vault.left(), 990);
        CHECK.same("withdraw", vault.withdraw(0), 0);
        CHECK.same("promised by the way that is left", vault.promise(0, 0), 100);
        vault.law(1, 5, 851, 2);
        CHECK.same("too much is lost on it", vault.promise(0, 1), 3);
        vault.withdraw(2);
        CHECK.same("promised without a way", vault.promise(0, 0), 3);
        Archives.begin(vault, 3);
        CHECK.same("the budget of each year", vault.left(), 20);
        CHECK.same("it has to be read again", vault.overdue(), 1);
        CHECK.same("read behind 3 years", vault.read(0), 3);
        CHECK.same("it is read", vault.overdue(), 0);
    }

    /** "An object is used for at most 512 calls after it has been made". */
    private static void usedForSoManyCalls() {
        FormatVault vault = new FormatVault();
        for (int i = 0; i < 30; i++) {
            CHECK.same("converter", vault.converter(i % 9, 9, i, i), i);
        }
        for (int i = 0; i < 40; i++) {
            CHECK.same("file", vault.file(i % 9, 1 + i, i % 5), i);
        }
        for (int i = 70; i < 510; i++) {
            CHECK.same("begin", vault.begin(), 0);
        }
        CHECK.same("call 511", vault.year(), 440);
        CHECK.same("call 512", vault.stateOf(39), RELEASED);
    }

    // ---- formats and converters

    /** "Questions change nothing." Here: each is asked twice, in both orders. */
    private static void questionsChangeNothing() {
        String there = "";
        String back = "";
        FormatVault vault = Archives.busy();
        for (int question = 0; question < 14; question++) {
            there = there + ask(vault, question) + " ";
        }
        for (int question = 13; question >= 0; question--) {
            back = ask(vault, question) + " " + back;
        }
        CHECK.same("both orders", back, there);
    }

    private static int ask(FormatVault vault, int question) {
        return switch (question) {
            case 0 -> vault.quality(4, 1);
            case 1 -> vault.qualityByAll(4, 1);
            case 2 -> vault.cost(4, 1);
            case 3 -> vault.stepAt(4, 1, 1);
            case 4 -> vault.haven(6);
            case 5 -> vault.isSafe(6) ? 1 : 0;
            case 6 -> vault.stateOf(3);
            case 7 -> vault.formatOf(1);
            case 8 -> vault.qualityOf(1);
            case 9 -> vault.endOf(6);
            case 10 -> vault.left();
            case 11 -> vault.year();
            case 12 -> vault.overdue();
            default -> vault.promise(4, 4);
        };
    }

    /** "Years are counted from 0; the year of now is 0 at first." */
    private static void yearsAreCountedFrom0() {
        FormatVault vault = new FormatVault();
        CHECK.same("at first", vault.year(), 0);
        CHECK.same("a last year of 0", vault.setLast(0, 0), NONE);
        vault.begin();
        CHECK.same("the next one", vault.year(), 1);
        CHECK.outOfRange("0 is over", () -> vault.setLast(1, 0));
    }

    /** "There are the formats 0 to 9; each has a last year ..., or is without end, as at first." */
    private static void formats0To9WithoutEndAtFirst() {
        FormatVault vault = new FormatVault();
        for (int format = 0; format < 10; format++) {
            CHECK.same("at first " + format, vault.setLast(format, 5 + format), NONE);
            CHECK.same("then " + format, vault.setLast(format, NONE), 5 + format);
            CHECK.same("again " + format, vault.setLast(format, 7), NONE);
        }
        CHECK.noSuch("-1", () -> vault.setLast(-1, NONE));
        CHECK.noSuch("10", () -> vault.setLast(10, NONE));
    }

    /** "Converters are numbered from 0, at most 30." */
    private static void convertersAreNumberedFrom0() {
        FormatVault vault = new FormatVault();
        for (int i = 0; i < 30; i++) {
            CHECK.same("converter", vault.converter(0, 1, 0, 0), i);
        }
        CHECK.notNow("one more", () -> vault.converter(0, 1, 0, 0));
    }

    /** "A converter makes of one format another one, ..., until it is withdrawn, ... for ever." */
    private static void converterUntilItIsWithdrawn() {
        FormatVault vault = new FormatVault();
        vault.converter(3, 4, 20, 6);
        vault.file(3, 5, 0);
        CHECK.same("the loss", vault.quality(3, 4), 980);
        CHECK.same("not the other way round", vault.quality(4, 3), NONE);
        vault.file(3, 5, 0);
        CHECK.same("the loss of a file", vault.move(0, 4), 980);
        CHECK.same("the cost for each unit of size", vault.left(), 970);
        vault.withdraw(0);
        CHECK.same("withdrawn", vault.quality(3, 4), NONE);
        CHECK.notNow("nothing is moved", () -> vault.move(1, 4));
        CHECK.notNow("not once more", () -> vault.withdraw(0));
        CHECK.same("a new one has a new number", vault.converter(3, 4, 0, 0), 1);
    }

    /** "A file with a quality q has the quality q times (1000 less the loss) ... rounded down". */
    private static void qualityIsRoundedDown() {
        for (int quality = 500; quality <= 1000; quality++) {
            FormatVault vault = new FormatVault();
            vault.setBudget(0);
            vault.converter(0, 1, 1000 - quality, 0);
            for (int loss : new int[] {0, 1, 2, 3, 7, 250, 333, 498, 499, 500}) {
                int converter = vault.converter(1, 2, loss, 0);
                int file = vault.file(0, 1, 0);
                int due = (quality * (1000 - loss) - quality * (1000 - loss) % 1000) / 1000;
                String name = quality + " behind a loss of " + loss;
                CHECK.same(name, vault.quality(0, 2), due);
                CHECK.same(name, vault.qualityByAll(0, 2), due);
                CHECK.same(name + ", a file ahead", vault.move(file, 1), quality);
                CHECK.same(name + ", a file", vault.move(file, 2), due);
                vault.withdraw(converter);
            }
        }
    }

    /** "A way ... is a row of converters ..., each from the format to which the one ... leads". */
    private static void wayLeadsOnFromFormatToFormat() {
        FormatVault vault = new FormatVault();
        vault.converter(0, 1, 1, 1);
        vault.converter(2, 3, 1, 1);
        CHECK.same("a gap", vault.quality(0, 3), NONE);
        vault.converter(2, 1, 1, 1);
        CHECK.same("one against the direction", vault.quality(0, 3), NONE);
        vault.converter(1, 2, 1, 1);
        CHECK.same("a row", vault.cost(0, 3), 3);
        vault.withdraw(3);
        CHECK.same("one is withdrawn", vault.quality(0, 3), NONE);
    }

    /** "... that comes to no format twice." */
    private static void wayComesToNoFormatTwice() {
        FormatVault vault = new FormatVault();
        vault.converter(0, 1, 0, 0);
        vault.converter(1, 0, 0, 0);
        vault.converter(1, 2, 0, 0);
        vault.converter(2, 1, 0, 0);
        CHECK.same("not round and back", vault.stepAt(0, 0, 0), NONE);
        CHECK.same("the first one", vault.stepAt(0, 2, 0), 0);
        CHECK.same("the second one", vault.stepAt(0, 2, 1), 2);
        CHECK.same("no third one", vault.stepAt(0, 2, 2), NONE);
    }

    /** "The quality of a way is what becomes of 1000 along it, its cost the sum of the costs." */
    private static void qualityAndCostOfAWay() {
        FormatVault vault = new FormatVault();
        vault.converter(5, 6, 333, 10);
        vault.converter(6, 7, 333, 20);
        vault.converter(7, 8, 333, 30);
        CHECK.same("one", vault.quality(5, 6) * 1000 + vault.cost(5, 6), 667010);
        CHECK.same("two, 444.889", vault.quality(5, 7) * 1000 + vault.cost(5, 7), 444030);
        CHECK.same("three, 296.148", vault.quality(5, 8) * 1000 + vault.cost(5, 8), 296060);
        CHECK.same("all three alone, 444.889", vault.quality(6, 8), 444);
    }

    /** "The best way is the one with the greatest quality; of several ..." */
    private static void bestWayByQualityCostLengthNumbers() {
        FormatVault vault = new FormatVault();
        vault.converter(0, 3, 11, 0);
        best(vault, "the only one", 0, NONE);
        vault.converter(0, 1, 10, 8);
        vault.converter(1, 3, 0, 8);
        best(vault, "greater, though dearer and longer", 1, 2);
        vault.converter(0, 2, 0, 8);
        vault.converter(2, 3, 10, 8);
        best(vault, "as good as the lower one", 1, 2);
        vault.converter(2, 3, 10, 7);
        best(vault, "cheaper, though higher", 3, 5);
        vault.converter(1, 3, 0, 7);
        best(vault, "lower where they first differ", 1, 6);
        vault.converter(0, 3, 10, 15);
        best(vault, "shorter, though higher", 7, NONE);
        vault.converter(0, 3, 10, 15);
        best(vault, "the lower one of two converters", 7, NONE);
        vault.withdraw(7);
        best(vault, "the other one of the two", 8, NONE);
    }

    private static void best(FormatVault vault, String name, int first, int second) {
        CHECK.same(name + ", step 0", vault.stepAt(0, 3, 0), first);
        CHECK.same(name + ", step 1", vault.stepAt(0, 3, 1), second);
        CHECK.same(name + ", step 2", vault.stepAt(0, 3, 2), NONE);
    }

    /** "From a format to itself the best way has no converters, the quality 1000 and the cost 0." */
    private static void bestWayToItself() {
        FormatVault vault = Archives.busy();
        for (int format = 0; format < 10; format++) {
            CHECK.same("step " + format, vault.stepAt(format, format, 0), NONE);
            CHECK.same("quality " + format, vault.quality(format, format), 1000);
            CHECK.same("by all " + format, vault.qualityByAll(format, format), 1000);
            CHECK.same("cost " + format, vault.cost(format, format), 0);
        }
    }

    // ---- laws and files

    /** "There are the laws 0 to 4; each tells for how many years, 10 at first, ...". */
    private static void lawsAtFirst() {
        FormatVault vault = new FormatVault();
        vault.converter(0, 1, 500, 0);
        vault.converter(1, 0, 500, 0);
        for (int law = 0; law < 5; law++) {
            int file = Archives.worn(vault, law, 0);
            CHECK.same("10 years", vault.endOf(file), 10);
            CHECK.same("the least quality is 0", vault.read(file), 0);
        }
        Archives.begin(vault, 5);
        CHECK.same("5 years unread", vault.overdue(), 0);
        vault.begin();
        CHECK.same("6 years unread", vault.overdue(), 5);
        CHECK.noSuch("law -1", () -> vault.law(-1, 10, 0, 5));
        CHECK.noSuch("law 5", () -> vault.law(5, 10, 0, 5));
    }

    /** "Files are numbered from 0, at most 40." */
    private static void filesAreNumberedFrom0() {
        FormatVault vault = new FormatVault();
        for (int i = 0; i < 40; i++) {
            CHECK.same("file", vault.file(0, 1, 0), i);
        }
        CHECK.notNow("one more", () -> vault.file(0, 1, 0));
    }

    /** "A file has ... a quality, 1000 at first, and an end: ... the years of its law then". */
    private static void endIsByTheLawThen() {
        FormatVault vault = Archives.inYear(4);
        vault.law(2, 7, 0, 5);
        int file = vault.file(6, 100, 2);
        vault.law(2, 9, 0, 5);
        CHECK.same("the format", vault.formatOf(file), 6);
        CHECK.same("the quality", vault.qualityOf(file), 1000);
        CHECK.same("the end", vault.endOf(file), 11);
        CHECK.same("the end of the next one", vault.endOf(vault.file(6, 1, 2)), 13);
        CHECK.same("the state", vault.stateOf(file), KEPT);
    }

    /** "It is KEPT; or RELEASED, LOST, for good." */
    private static void releasedOrLostForGood() {
        FormatVault vault = new FormatVault();
        vault.law(0, 1, 0, 1);
        vault.setLast(1, 0);
        vault.file(0, 1, 0);
        vault.file(1, 1, 1);
        vault.file(0, 1, 1);
        CHECK.same("one is lost", vault.begin(), 1);
        CHECK.same("no more", vault.begin(), 0);
        CHECK.notNow("the released one can't be held", () -> vault.hold(0, true));
        CHECK.notNow("the lost one can't be held", () -> vault.hold(1, true));
        for (int year = 2; year < 20; year++) {
            CHECK.same("released", vault.stateOf(0), RELEASED);
            CHECK.same("lost", vault.stateOf(1), LOST);
            CHECK.same("kept until 10", vault.stateOf(2), year <= 10 ? KEPT : RELEASED);
            vault.begin();
        }
    }

    /** "It was read in the year in which it was taken in, ...". */
    private static void readInTheYearInWhichItWasTakenIn() {
        FormatVault vault = Archives.inYear(3);
        vault.file(0, 1, 0);
        CHECK.same("in the same year", vault.read(0), 0);
        Archives.begin(vault, 2);
        CHECK.same("two years later", vault.read(0), 2);
        CHECK.same("twice", vault.read(0), 0);
    }

    /** "... can be read as long as it is KEPT, ..., and its quality is at least the least one". */
    private static void canBeReadAsLongAs() {
        FormatVault vault = new FormatVault();
        vault.converter(0, 1, 100, 0);
        vault.setLast(1, 2);
        vault.file(0, 1, 0);
        vault.move(0, 1);
        vault.law(0, 10, 901, 5);
        CHECK.notNow("below the least quality", () -> vault.read(0));
        vault.law(0, 10, 900, 5);
        CHECK.same("just the least quality", vault.read(0), 0);
        Archives.begin(vault, 2);
        CHECK.same("in the last year of its format", vault.read(0), 2);
        vault.begin();
        CHECK.notNow("behind it", () -> vault.read(0));
    }

    /** "A file can be held, so that it is not released." */
    private static void heldIsNotReleased() {
        FormatVault vault = new FormatVault();
        vault.file(0, 1, 0);
        CHECK.same("hold", vault.hold(0, true), true);
        Archives.begin(vault, 50);
        CHECK.same("held", vault.stateOf(0), KEPT);
        CHECK.same("let go", vault.hold(0, false), true);
        CHECK.same("in that year", vault.stateOf(0), KEPT);
        CHECK.same("none is lost", vault.begin(), 0);
        CHECK.same("in the next year", vault.stateOf(0), RELEASED);
    }

    // ---- safety and havens

    /** "A file that is held has to be readable for ever: by a format without end." */
    private static void heldHasToBeReadableForEver() {
        FormatVault vault = new FormatVault();
        vault.file(0, 1, 0);
        vault.hold(0, true);
        CHECK.same("without end", vault.isSafe(0), true);
        vault.setLast(0, 1000);
        CHECK.same("up to 1000", vault.isSafe(0), false);
    }

    /** "Another one is safe in a format that ... can be read in the year of its end, too". */
    private static void anotherOneInTheYearOfItsEnd() {
        FormatVault vault = new FormatVault();
        vault.file(0, 1, 0);
        for (int last = 0; last < 20; last++) {
            vault.setLast(0, last);
            CHECK.same("up to " + last, vault.isSafe(0), last >= 10);
            CHECK.same("haven up to " + last, vault.haven(0), last >= 10 ? 0 : NONE);
        }
    }

    /** "... (also if that year is over, as it was held)." */
    private static void alsoIfThatYearIsOver() {
        FormatVault vault = new FormatVault();
        vault.setLast(0, 12);
        vault.file(0, 1, 0);
        vault.hold(0, true);
        Archives.begin(vault, 12);
        CHECK.same("held behind its end", vault.isSafe(0), false);
        vault.hold(0, false);
        CHECK.same("let go behind its end", vault.isSafe(0), true);
        CHECK.same("its haven", vault.haven(0), 0);
        CHECK.same("so it stays", vault.moveAhead(), 0);
    }

    /** "The haven of a file is, ..., the one in which its quality would be the greatest ...". */
    private static void havenIsTheGreatestOfTheSafeOnes() {
        FormatVault vault = new FormatVault();
        vault.setLast(5, 9);
        vault.setLast(6, 9);
        vault.file(5, 1, 0);
        vault.converter(5, 6, 0, 0);
        CHECK.same("not where it is not safe", vault.haven(0), NONE);
        vault.converter(5, 7, 300, 1);
        CHECK.same("the only safe one", vault.haven(0), 7);
        vault.converter(6, 8, 200, 9);
        CHECK.same("the greatest quality", vault.haven(0), 8);
        vault.converter(5, 9, 200, 8);
        CHECK.same("of several the least cost", vault.haven(0), 9);
        vault.converter(5, 4, 200, 8);
        CHECK.same("of several the lowest one", vault.haven(0), 4);
        vault.setLast(5, 10);
        CHECK.same("its own one too", vault.haven(0), 5);
    }

    /** "A file has none if there is no such format.": the greatest quality has to be enough. */
    private static void noHavenIfThereIsNoSuchFormat() {
        FormatVault vault = new FormatVault();
        vault.setLast(0, 9);
        vault.law(0, 10, 800, 5);
        vault.file(0, 1, 0);
        CHECK.same("no way", vault.haven(0), NONE);
        vault.converter(0, 1, 201, 0);
        CHECK.same("799", vault.haven(0), NONE);
        vault.converter(0, 1, 200, 0);
        CHECK.same("800", vault.haven(0), 1);
        CHECK.same("withdraw", vault.withdraw(1), 1);
        CHECK.same("799 again", vault.haven(0), NONE);
    }

    /** "Its quality behind a way is found along it from the quality that it has." */
    private static void qualityBehindAWayIsThatOfTheFile() {
        FormatVault vault = new FormatVault();
        vault.converter(0, 1, 1, 0);
        vault.converter(1, 2, 1, 0);
        vault.converter(2, 3, 500, 0);
        vault.file(0, 1, 0);
        vault.file(0, 1, 0);
        CHECK.same("999", vault.move(0, 1), 999);
        CHECK.same("998.001", vault.move(0, 2), 998);
        CHECK.same("499", vault.move(0, 3), 499);
        CHECK.same("the same along all three", vault.move(1, 3), 499);
        vault.converter(3, 4, 1, 0);
        vault.converter(4, 5, 1, 0);
        CHECK.same("499 by 998 at once were 498.002", vault.move(0, 5), 497);
    }

    // ---- moving, years

    /** "A budget is told for each year, 1000 at first; what is left of it is as much ...". */
    private static void budgetForEachYear() {
        FormatVault vault = new FormatVault();
        vault.converter(0, 1, 0, 10);
        vault.converter(1, 0, 0, 10);
        vault.file(0, 30, 0);
        CHECK.same("at first", vault.left(), 1000);
        vault.move(0, 1);
        CHECK.same("behind a move", vault.left(), 700);
        CHECK.same("the budget before", vault.setBudget(450), 1000);
        CHECK.same("this year is as it was", vault.left(), 700);
        vault.begin();
        CHECK.same("nothing is carried over", vault.left(), 450);
        vault.move(0, 0);
        CHECK.same("behind a move then", vault.left(), 150);
        CHECK.notNow("a move for more", () -> vault.move(0, 1));
        vault.begin();
        CHECK.same("the next year", vault.left(), 450);
    }

    /** "To move a file ... is to take it along the best way to that, which costs its size ...". */
    private static void moveCostsItsSizeTimesTheCost() {
        for (int size = 1; size <= 100; size += 9) {
            FormatVault vault = new FormatVault();
            vault.converter(0, 1, 3, 4);
            vault.converter(1, 2, 0, 5);
            vault.converter(0, 2, 4, 0);
            vault.file(0, size, 0);
            CHECK.same("the best way, not the cheapest one", vault.move(0, 2), 997);
            CHECK.same("its cost for " + size, vault.left(), 1000 - 9 * size);
        }
    }

    /** "To move all ahead is this: ..." */
    private static void moveAllAhead() {
        FormatVault vault = new FormatVault();
        vault.converter(0, 9, 0, 100);
        vault.converter(1, 9, 0, 100);
        vault.setLast(0, 8);
        vault.setLast(1, 7);
        vault.setLast(2, 6);
        vault.setLast(3, 10);
        int[] formats = {0, 1, 2, 3, 1, 0, 1};
        int[] sizes = {1, 4, 1, 1, 5, 2, 1};
        for (int i = 0; i < formats.length; i++) {
            vault.file(formats[i], sizes[i], 0);
        }
        CHECK.same("moved for 400 + 500 + 100", vault.moveAhead(), 3);
        CHECK.same("the earliest format, all its files", vault.left(), 0);
        CHECK.same("file 1", vault.formatOf(1), 9);
        CHECK.same("file 4", vault.formatOf(4), 9);
        CHECK.same("file 6", vault.formatOf(6), 9);
        CHECK.same("a later format has to wait", vault.formatOf(0), 0);
        CHECK.same("without a haven", vault.formatOf(2), 2);
        CHECK.same("safe", vault.formatOf(3), 3);
        vault.setBudget(199);
        vault.begin();
        CHECK.same("the next year: enough for one of the two", vault.moveAhead(), 1);
        CHECK.same("file 0", vault.formatOf(0), 9);
        CHECK.same("file 5", vault.formatOf(5), 0);
        CHECK.same("left", vault.left(), 99);
    }

    /** "When a year begins, then, for each file that is KEPT, by rising numbers: ..." */
    private static void yearBegins() {
        FormatVault vault = new FormatVault();
        vault.law(0, 2, 0, 5);
        vault.setLast(1, 2);
        vault.file(0, 1, 0);
        vault.file(1, 1, 0);
        vault.file(0, 1, 0);
        vault.file(1, 1, 0);
        vault.hold(2, true);
        vault.hold(3, true);
        CHECK.same("year 1", vault.begin(), 0);
        CHECK.same("year 2, the last one of all", vault.begin(), 0);
        CHECK.same("file 1 is kept in it", vault.stateOf(1), KEPT);
        CHECK.same("year 3", vault.begin(), 1);
        CHECK.same("released", vault.stateOf(0), RELEASED);
        CHECK.same("released, not lost", vault.stateOf(1), RELEASED);
        CHECK.same("held", vault.stateOf(2), KEPT);
        CHECK.same("held, but lost", vault.stateOf(3), LOST);
    }

    /** "A file is overdue if it is KEPT, and the year of now is later than ..., together." */
    private static void overdueIsLaterThan() {
        FormatVault vault = Archives.inYear(2);
        vault.law(0, 100, 0, 3);
        vault.file(0, 1, 0);
        vault.file(0, 1, 0);
        Archives.begin(vault, 3);
        CHECK.same("in the year 5", vault.overdue(), 0);
        vault.read(1);
        vault.begin();
        CHECK.same("in the year 6", vault.overdue(), 1);
        Archives.begin(vault, 3);
        CHECK.same("in the year 9", vault.overdue(), 2);
        vault.law(0, 100, 0, 7);
        CHECK.same("by the law of now", vault.overdue(), 0);
    }

    // ---- exceptions, constants

    /** "If several apply, the one that is named first ... is thrown. ... changes nothing." */
    private static void exceptions() {
        FormatVault vault = Archives.busy();
        CHECK.noSuch("all three", () -> vault.move(10, 1));
        CHECK.noSuch("all three, the other one", () -> vault.move(2, 10));
        CHECK.outOfRange("the last two", () -> vault.move(3, 2));
        CHECK.notNow("the last one", () -> vault.move(3, 0));
        CHECK.same("as it was", vault.formatOf(3), 2);
        CHECK.same("as much is left", vault.left(), 300);
    }

    /** "There is none; without end." and "What files are." */
    private static void constants() {
        CHECK.same("NONE", NONE, -1);
        CHECK.same("KEPT", KEPT, 0);
        CHECK.same("RELEASED", RELEASED, 1);
        CHECK.same("LOST", LOST, 2);
    }
}
