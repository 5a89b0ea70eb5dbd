/** Promises 10 to 20: files, havens and moves. */
public final class FilesTest {
    private static final int NONE = FormatVault.NONE;
    private static final int KEPT = FormatVault.KEPT;
    private static final int RELEASED = FormatVault.RELEASED;
    private static final int LOST = FormatVault.LOST;
    private static final int MIN = Integer.MIN_VALUE;
    private static final int MAX = Integer.MAX_VALUE;
    private static final Check CHECK = new Check("files");

    public static void main(String[] args) {
        promise10File();
        promise10AtMostForty();
        promise10FormatThatEnded();
        promise11Hold();
        promise12Read();
        promise12CannotBeRead();
        promise12NoQualityAndNoLeastOne();
        promise13Move();
        promise13Refuses();
        promise13BudgetAndFormat();
        promise13AlongTheBestWayOfFullQuality();
        promise14MoveAheadByLastYears();
        promise14OthersMayStillBeMoved();
        promise14OnlyKeptUnsafeFilesWithHavens();
        promise14OrderIsThatOfTheBeginning();
        promise15HavenByQualityCostNumber();
        promise15HavenBySafety();
        promise15LeastQuality();
        promise15QualityOfTheFileBehindTheWay();
        promise16IsSafe();
        promise16EndThatIsOver();
        promises17To20WhatAFileIs();
        promises11To20NoSuchFile();
        CHECK.end();
    }

    private static void begin(FormatVault vault, int years) {
        for (int i = 0; i < years; i++) {
            vault.begin();
        }
    }

    private static void promise10File() {
        FormatVault vault = new FormatVault();
        CHECK.same("file(0, 1, 0)", vault.file(0, 1, 0), 0);
        CHECK.same("file(9, 100, 4)", vault.file(9, 100, 4), 1);
        CHECK.same("its state", vault.stateOf(1), KEPT);
        CHECK.same("its format", vault.formatOf(1), 9);
        CHECK.same("its quality", vault.qualityOf(1), 1000);
        CHECK.same("its end", vault.endOf(1), 10);
        CHECK.same("it is not held", vault.hold(1, false), false);
        for (int format : new int[] {-1, 10, MIN, MAX}) {
            CHECK.noSuch("file of format " + format, () -> vault.file(format, 1, 0));
            CHECK.noSuch("file, all wrong", () -> vault.file(format, 0, 5));
        }
        for (int law : new int[] {-1, 5, MIN, MAX}) {
            CHECK.noSuch("file by law " + law, () -> vault.file(0, 1, law));
            CHECK.noSuch("file, law and size wrong", () -> vault.file(0, 101, law));
        }
        for (int size : new int[] {-1, 0, 101, MIN, MAX}) {
            CHECK.outOfRange("file of size " + size, () -> vault.file(0, size, 0));
        }
        vault.begin();
        vault.law(2, 7, 0, 5);
        CHECK.same("file behind refusals", vault.file(1, 1, 2), 2);
        CHECK.same("end counted from now", vault.endOf(2), 8);
        CHECK.same("read in the year of now", vault.read(2), 0);
    }

    private static void promise10AtMostForty() {
        FormatVault vault = new FormatVault();
        vault.law(0, 1, 0, 5);
        for (int i = 0; i < 40; i++) {
            CHECK.same("file " + i, vault.file(i % 10, 1, 0), i);
        }
        CHECK.notNow("file 40", () -> vault.file(0, 1, 0));
        CHECK.outOfRange("file 40 out of range", () -> vault.file(0, 0, 0));
        CHECK.noSuch("file 40 of no format", () -> vault.file(10, 1, 0));
        CHECK.noSuch("there is no file 40", () -> vault.stateOf(40));
        begin(vault, 2);
        CHECK.same("all are released", vault.stateOf(39), RELEASED);
        CHECK.notNow("file 40, all released", () -> vault.file(0, 1, 0));
    }

    private static void promise10FormatThatEnded() {
        FormatVault vault = new FormatVault();
        vault.setLast(3, 1);
        vault.begin();
        CHECK.same("file in the last year", vault.file(3, 1, 0), 0);
        vault.begin();
        CHECK.notNow("file behind the last year", () -> vault.file(3, 1, 0));
        CHECK.outOfRange("file, size ahead of state", () -> vault.file(3, 0, 0));
        CHECK.same("file of another format", vault.file(4, 1, 0), 1);
    }

    private static void promise11Hold() {
        FormatVault vault = new FormatVault();
        vault.law(0, 1, 0, 5);
        vault.setLast(5, 2);
        vault.file(0, 1, 0);
        vault.file(0, 1, 0);
        vault.file(5, 1, 0);
        CHECK.same("hold", vault.hold(0, true), true);
        CHECK.same("hold again", vault.hold(0, true), false);
        CHECK.same("hold no more", vault.hold(0, false), true);
        CHECK.same("hold no more again", vault.hold(0, false), false);
        vault.hold(0, true);
        vault.hold(2, true);
        begin(vault, 2);
        CHECK.same("a held file is not released", vault.stateOf(0), KEPT);
        CHECK.same("another one is", vault.stateOf(1), RELEASED);
        CHECK.notNow("hold a released one", () -> vault.hold(1, true));
        CHECK.notNow("hold a released one no more", () -> vault.hold(1, false));
        CHECK.same("a held one is kept in the last year", vault.stateOf(2), KEPT);
        CHECK.same("begin", vault.begin(), 1);
        CHECK.same("a held one is lost with its format", vault.stateOf(2), LOST);
        CHECK.notNow("hold a lost one", () -> vault.hold(2, false));
        vault.hold(0, false);
        CHECK.same("it is kept until a year begins", vault.stateOf(0), KEPT);
        vault.begin();
        CHECK.same("it is released then", vault.stateOf(0), RELEASED);
    }

    private static void promise12Read() {
        FormatVault vault = new FormatVault();
        vault.law(1, 1, 0, 5);
        begin(vault, 3);
        vault.file(0, 1, 0);
        vault.file(0, 1, 0);
        vault.file(0, 1, 1);
        CHECK.same("read at once", vault.read(0), 0);
        begin(vault, 4);
        CHECK.same("read behind 4 years", vault.read(0), 4);
        CHECK.same("read again", vault.read(0), 0);
        vault.begin();
        CHECK.same("read behind 1 year", vault.read(0), 1);
        CHECK.same("read another one", vault.read(1), 5);
        CHECK.notNow("read a released one", () -> vault.read(2));
    }

    private static void promise12CannotBeRead() {
        FormatVault vault = new FormatVault();
        vault.converter(0, 1, 100, 1);
        vault.setLast(2, 1);
        vault.file(0, 1, 0);
        vault.file(2, 1, 0);
        vault.move(0, 1);
        vault.law(0, 10, 900, 5);
        vault.begin();
        CHECK.same("read with just the least quality", vault.read(0), 1);
        CHECK.same("read in the last year", vault.read(1), 1);
        vault.law(0, 10, 901, 5);
        vault.begin();
        CHECK.notNow("read below the least quality", () -> vault.read(0));
        CHECK.notNow("read a lost one", () -> vault.read(1));
        vault.law(0, 10, 900, 5);
        CHECK.same("the refused call did not read it", vault.read(0), 1);
    }

    private static void promise12NoQualityAndNoLeastOne() {
        FormatVault vault = new FormatVault();
        vault.converter(0, 1, 500, 0);
        vault.converter(1, 0, 500, 0);
        vault.file(0, 1, 0);
        for (int quality : new int[] {500, 250, 125, 62, 31, 15, 7, 3, 1, 0, 0}) {
            CHECK.same("move", vault.move(0, 1 - vault.formatOf(0)), quality);
        }
        CHECK.same("the least quality is 0 at first", vault.read(0), 0);
        CHECK.same("of two with nothing left the lower one", vault.haven(0), 0);
        vault.law(0, 10, 1, 5);
        CHECK.notNow("read below the least quality 1", () -> vault.read(0));
        CHECK.same("no haven below it", vault.haven(0), NONE);
    }

    private static void promise13Move() {
        FormatVault vault = new FormatVault();
        vault.converter(0, 1, 100, 3);
        vault.converter(1, 2, 333, 4);
        vault.setBudget(100);
        vault.file(0, 10, 0);
        vault.begin();
        CHECK.same("move", vault.move(0, 2), 600);
        CHECK.same("its format then", vault.formatOf(0), 2);
        CHECK.same("its quality then", vault.qualityOf(0), 600);
        CHECK.same("its end stays", vault.endOf(0), 10);
        CHECK.same("size times cost is spent", vault.left(), 30);
        CHECK.same("a move is no reading", vault.read(0), 1);
        vault.converter(2, 0, 0, 3);
        CHECK.same("move for all that is left", vault.move(0, 0), 600);
        CHECK.same("nothing is left", vault.left(), 0);
        CHECK.notNow("move without budget", () -> vault.move(0, 1));
        vault.begin();
        CHECK.same("move from a lower quality", vault.move(0, 1), 540);
        CHECK.same("the budget of the new year", vault.left(), 70);
    }

    private static void promise13Refuses() {
        FormatVault vault = new FormatVault();
        vault.converter(0, 1, 0, 0);
        vault.file(0, 1, 0);
        for (int file : new int[] {-1, 1, 40, MIN, MAX}) {
            CHECK.noSuch("move file " + file, () -> vault.move(file, 1));
            CHECK.noSuch("move, both wrong", () -> vault.move(file, 10));
        }
        for (int format : new int[] {-1, 10, MIN, MAX}) {
            CHECK.noSuch("move to format " + format, () -> vault.move(0, format));
        }
        CHECK.outOfRange("move to its own format", () -> vault.move(0, 0));
        CHECK.notNow("move without a way", () -> vault.move(0, 2));
        vault.setLast(1, 0);
        vault.begin();
        CHECK.notNow("move to a format that ended", () -> vault.move(0, 1));
        begin(vault, 10);
        CHECK.outOfRange("move a released one to its own", () -> vault.move(0, 0));
        CHECK.noSuch("move a released one to no format", () -> vault.move(0, 10));
        vault.converter(0, 3, 0, 0);
        CHECK.notNow("move a released one", () -> vault.move(0, 3));
        CHECK.same("it stays", vault.formatOf(0), 0);
    }

    private static void promise13BudgetAndFormat() {
        FormatVault vault = new FormatVault();
        vault.setBudget(199);
        vault.converter(0, 1, 0, 10);
        vault.converter(1, 2, 0, 10);
        vault.law(0, 10, 1000, 5);
        vault.setLast(1, 0);
        vault.setLast(2, 1);
        vault.file(0, 10, 0);
        vault.begin();
        CHECK.notNow("move for one too much", () -> vault.move(0, 2));
        CHECK.same("nothing is spent by that", vault.left(), 199);
        CHECK.same("nothing is moved by that", vault.formatOf(0), 0);
        FormatVault other = new FormatVault();
        other.converter(0, 1, 10, 10);
        other.converter(1, 2, 10, 10);
        other.setLast(1, 0);
        other.setLast(2, 1);
        other.law(0, 10, 1000, 5);
        other.file(0, 10, 0);
        other.begin();
        CHECK.same("over a format that ended, to one that is not safe, below the least quality",
                other.move(0, 2), 980);
    }

    /** From 999 another way would be better by a rounding, yet the best way is that of 1000. */
    private static void promise13AlongTheBestWayOfFullQuality() {
        FormatVault vault = new FormatVault();
        vault.converter(0, 1, 1, 0);
        vault.converter(1, 3, 500, 0);
        vault.converter(3, 4, 499, 0);
        vault.converter(1, 2, 499, 0);
        vault.converter(2, 4, 500, 0);
        CHECK.same("250 by both from 1000, so the lower one", vault.stepAt(1, 4, 0), 1);
        vault.file(0, 1, 0);
        vault.move(0, 1);
        CHECK.same("249 by that one, 250 by the other", vault.move(0, 4), 249);
        FormatVault tied = new FormatVault();
        tied.converter(0, 1, 3, 0);
        tied.converter(1, 2, 1, 9);
        tied.converter(1, 3, 1, 1);
        tied.converter(3, 2, 0, 1);
        tied.file(0, 2, 0);
        tied.move(0, 1);
        CHECK.same("by the cheaper one", tied.move(0, 2), 996);
        CHECK.same("what is left", tied.left(), 996);
    }

    private static void promise14MoveAheadByLastYears() {
        FormatVault vault = new FormatVault();
        vault.setBudget(25);
        vault.begin();
        for (int i = 0; i < 4; i++) {
            vault.converter(i, 9, i, 10);
        }
        vault.setLast(0, 5);
        vault.setLast(1, 4);
        vault.setLast(2, 5);
        vault.setLast(3, 3);
        vault.file(2, 1, 0);
        vault.file(0, 1, 0);
        vault.file(1, 1, 0);
        vault.file(3, 1, 0);
        CHECK.same("moveAhead", vault.moveAhead(), 2);
        CHECK.same("the first to end is moved", vault.formatOf(3), 9);
        CHECK.same("the second to end is moved", vault.formatOf(2), 9);
        CHECK.same("the lower of two stays", vault.formatOf(0), 2);
        CHECK.same("what is left", vault.left(), 5);
        CHECK.same("quality of the moved one", vault.qualityOf(3), 997);
        vault.begin();
        vault.setBudget(10);
        vault.begin();
        CHECK.same("moveAhead again", vault.moveAhead(), 1);
        CHECK.same("of two the lower one is moved", vault.formatOf(0), 9);
        CHECK.same("the higher one stays", vault.formatOf(1), 0);
    }

    private static void promise14OthersMayStillBeMoved() {
        FormatVault vault = new FormatVault();
        vault.setBudget(50);
        vault.begin();
        vault.converter(0, 9, 0, 10);
        vault.setLast(0, 5);
        vault.file(0, 4, 0);
        vault.file(0, 2, 0);
        vault.file(0, 1, 0);
        CHECK.same("moveAhead", vault.moveAhead(), 2);
        CHECK.same("the first one is moved", vault.formatOf(0), 9);
        CHECK.same("the second one is too dear", vault.formatOf(1), 0);
        CHECK.same("the third one is moved for the rest", vault.formatOf(2), 9);
        CHECK.same("nothing is left", vault.left(), 0);
        vault.converter(0, 8, 1, 0);
        CHECK.same("the haven is not the cheap one", vault.moveAhead(), 0);
        vault.converter(0, 9, 0, 0);
        CHECK.same("a way for nothing", vault.moveAhead(), 1);
    }

    private static void promise14OnlyKeptUnsafeFilesWithHavens() {
        FormatVault vault = new FormatVault();
        vault.converter(0, 1, 0, 0);
        vault.converter(2, 3, 0, 0);
        vault.converter(4, 5, 0, 0);
        vault.law(1, 1, 0, 5);
        vault.setLast(0, 10);
        vault.setLast(2, 9);
        vault.setLast(3, 9);
        vault.setLast(4, 1);
        vault.file(0, 1, 0);
        vault.file(0, 1, 0);
        vault.file(2, 1, 0);
        vault.file(4, 1, 1);
        vault.file(6, 1, 0);
        vault.file(4, 1, 0);
        begin(vault, 2);
        CHECK.same("one is released, one lost", vault.stateOf(3) * 10 + vault.stateOf(5), 12);
        CHECK.same("nothing to move", vault.moveAhead(), 0);
        vault.hold(1, true);
        CHECK.same("a held one has to be moved", vault.moveAhead(), 1);
        CHECK.same("to a format without end", vault.formatOf(1), 1);
        CHECK.same("a safe one stays", vault.formatOf(0), 0);
        CHECK.same("one without a haven stays", vault.formatOf(2), 2);
        CHECK.same("a released one stays", vault.formatOf(3), 4);
        CHECK.same("a lost one stays", vault.formatOf(5), 4);
        CHECK.same("moveAhead again", vault.moveAhead(), 0);
    }

    /** A file that was moved is not moved again, and does not change the order of the others. */
    private static void promise14OrderIsThatOfTheBeginning() {
        FormatVault vault = new FormatVault();
        vault.setBudget(7);
        vault.begin();
        vault.converter(0, 1, 0, 1);
        vault.converter(1, 2, 1, 1);
        vault.setLast(0, 3);
        vault.setLast(1, 50);
        vault.file(0, 3, 0);
        vault.file(1, 5, 0);
        vault.hold(1, true);
        vault.file(0, 4, 0);
        CHECK.same("moveAhead", vault.moveAhead(), 2);
        CHECK.same("first by last year and number", vault.formatOf(0), 1);
        CHECK.same("last by last year", vault.formatOf(1), 1);
        CHECK.same("second by last year", vault.formatOf(2), 1);
        CHECK.same("nothing is left", vault.left(), 0);
    }

    private static void promise15HavenByQualityCostNumber() {
        FormatVault vault = new FormatVault();
        vault.setLast(5, 3);
        vault.file(5, 1, 0);
        CHECK.same("no haven", vault.haven(0), NONE);
        vault.converter(5, 9, 20, 0);
        CHECK.same("the only one", vault.haven(0), 9);
        vault.converter(5, 8, 10, 9);
        CHECK.same("the one with the greatest quality", vault.haven(0), 8);
        vault.converter(5, 7, 10, 10);
        CHECK.same("not the dearer one, though lower", vault.haven(0), 8);
        vault.converter(5, 6, 10, 9);
        CHECK.same("the lower one of two", vault.haven(0), 6);
        vault.converter(5, 9, 10, 8);
        CHECK.same("the cheaper one, though higher", vault.haven(0), 9);
        vault.setLast(5, NONE);
        CHECK.same("its own one", vault.haven(0), 5);
        vault.converter(5, 4, 0, 1);
        CHECK.same("its own one costs nothing", vault.haven(0), 5);
        vault.converter(5, 3, 0, 0);
        CHECK.same("a lower one for nothing", vault.haven(0), 3);
        vault.setLast(3, 9);
        CHECK.same("which has to be safe", vault.haven(0), 5);
    }

    private static void promise15HavenBySafety() {
        FormatVault vault = new FormatVault();
        vault.converter(0, 1, 10, 0);
        vault.converter(0, 2, 20, 0);
        vault.converter(0, 3, 30, 0);
        vault.setLast(0, 5);
        vault.setLast(1, 9);
        vault.setLast(2, 10);
        vault.file(0, 1, 0);
        CHECK.same("readable in the year of its end", vault.haven(0), 2);
        vault.hold(0, true);
        CHECK.same("readable for ever", vault.haven(0), 3);
        vault.setLast(3, 1000);
        CHECK.same("1000 is not for ever", vault.haven(0), NONE);
        vault.hold(0, false);
        CHECK.same("not held any more", vault.haven(0), 2);
        vault.setLast(1, 10);
        CHECK.same("a better one that is safe now", vault.haven(0), 1);
        begin(vault, 11);
        CHECK.same("a file that is not kept has none", vault.haven(0), NONE);
    }

    private static void promise15LeastQuality() {
        FormatVault vault = new FormatVault();
        vault.converter(0, 1, 100, 0);
        vault.setLast(0, 5);
        vault.law(2, 10, 900, 5);
        vault.file(0, 1, 2);
        CHECK.same("just the least quality", vault.haven(0), 1);
        vault.law(2, 10, 901, 5);
        CHECK.same("below the least quality", vault.haven(0), NONE);
        vault.setLast(0, NONE);
        CHECK.same("its own quality", vault.haven(0), 0);
        vault.move(0, 1);
        CHECK.same("its own one below the least quality", vault.haven(0), NONE);
        CHECK.same("it is safe all the same", vault.isSafe(0), true);
        vault.law(2, 10, 900, 5);
        CHECK.same("its own one again", vault.haven(0), 1);
    }

    /** Roundings along the ways make another haven of the file's quality than 1000 would. */
    private static void promise15QualityOfTheFileBehindTheWay() {
        FormatVault vault = new FormatVault();
        vault.converter(0, 1, 500, 0);
        vault.converter(1, 2, 3, 9);
        vault.converter(1, 3, 4, 8);
        vault.setLast(1, 1);
        vault.file(1, 1, 0);
        vault.file(0, 1, 0);
        vault.move(1, 1);
        CHECK.same("997 against 996", vault.haven(0), 2);
        CHECK.same("498 against 498", vault.haven(1), 3);
        vault.law(0, 10, 499, 5);
        CHECK.same("498 is below 499", vault.haven(1), NONE);
    }

    private static void promise16IsSafe() {
        FormatVault vault = new FormatVault();
        vault.file(0, 1, 0);
        CHECK.same("without end", vault.isSafe(0), true);
        vault.setLast(0, 10);
        CHECK.same("to the year of its end", vault.isSafe(0), true);
        vault.setLast(0, 9);
        CHECK.same("to the year ahead of it", vault.isSafe(0), false);
        vault.setLast(0, 1000);
        CHECK.same("far behind its end", vault.isSafe(0), true);
        vault.hold(0, true);
        CHECK.same("held, with an end", vault.isSafe(0), false);
        vault.setLast(0, NONE);
        CHECK.same("held, without end", vault.isSafe(0), true);
        vault.hold(0, false);
        begin(vault, 11);
        CHECK.same("not kept any more", vault.isSafe(0), false);
    }

    private static void promise16EndThatIsOver() {
        FormatVault vault = new FormatVault();
        vault.law(0, 2, 0, 5);
        vault.converter(1, 0, 0, 0);
        vault.setLast(0, 3);
        vault.setLast(1, 9);
        vault.file(1, 1, 0);
        vault.hold(0, true);
        begin(vault, 5);
        CHECK.same("held behind its end", vault.isSafe(0), false);
        vault.hold(0, false);
        CHECK.same("its end is over", vault.isSafe(0), true);
        CHECK.same("format 0 could be read in the year of its end", vault.haven(0), 0);
        CHECK.notNow("format 0 cannot be read now", () -> vault.move(0, 0));
        CHECK.same("it is safe, and stays", vault.moveAhead(), 0);
    }

    private static void promises17To20WhatAFileIs() {
        FormatVault vault = new FormatVault();
        CHECK.same("KEPT", KEPT, 0);
        CHECK.same("RELEASED", RELEASED, 1);
        CHECK.same("LOST", LOST, 2);
        CHECK.same("NONE", NONE, -1);
        vault.converter(0, 1, 100, 1);
        vault.setLast(1, 3);
        vault.file(0, 1, 0);
        vault.file(0, 1, 1);
        vault.law(0, 2, 0, 5);
        vault.file(0, 1, 0);
        vault.move(1, 1);
        vault.move(2, 1);
        begin(vault, 4);
        CHECK.same("state of a kept one", vault.stateOf(0), KEPT);
        CHECK.same("format of a kept one", vault.formatOf(0), 0);
        CHECK.same("quality of a kept one", vault.qualityOf(0), 1000);
        CHECK.same("state of a lost one", vault.stateOf(1), LOST);
        CHECK.same("last format of a lost one", vault.formatOf(1), 1);
        CHECK.same("last quality of a lost one", vault.qualityOf(1), 900);
        CHECK.same("end of a lost one", vault.endOf(1), 10);
        CHECK.same("state of a released one", vault.stateOf(2), RELEASED);
        CHECK.same("last format of a released one", vault.formatOf(2), 1);
        CHECK.same("last quality of a released one", vault.qualityOf(2), 900);
        CHECK.same("end of a released one", vault.endOf(2), 2);
        begin(vault, 10);
        CHECK.same("a lost one is not released later", vault.stateOf(1), LOST);
    }

    private static void promises11To20NoSuchFile() {
        FormatVault vault = new FormatVault();
        vault.file(0, 1, 0);
        for (int file : new int[] {-1, 1, 39, 40, 64, MIN, MAX}) {
            CHECK.noSuch("hold " + file, () -> vault.hold(file, true));
            CHECK.noSuch("read " + file, () -> vault.read(file));
            CHECK.noSuch("haven " + file, () -> vault.haven(file));
            CHECK.noSuch("isSafe " + file, () -> vault.isSafe(file));
            CHECK.noSuch("stateOf " + file, () -> vault.stateOf(file));
            CHECK.noSuch("formatOf " + file, () -> vault.formatOf(file));
            CHECK.noSuch("qualityOf " + file, () -> vault.qualityOf(file));
            CHECK.noSuch("endOf " + file, () -> vault.endOf(file));
        }
    }
}
