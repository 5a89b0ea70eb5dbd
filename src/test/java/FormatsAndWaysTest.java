/** Promises 1 to 9: formats, converters, laws and ways. */
public final class FormatsAndWaysTest {
    private static final int NONE = FormatVault.NONE;
    private static final int MIN = Integer.MIN_VALUE;
    private static final int MAX = Integer.MAX_VALUE;
    private static final Check CHECK = new Check("formats and ways");

    public static void main(String[] args) {
        promise1NewObject();
        promise2SetLast();
        promise2LastYearsByNow();
        promise3Converter();
        promise3AtMostThirty();
        promise4Withdraw();
        promise4CountsLostHavens();
        promise4CountsOnlyKeptFilesThatHadOne();
        promise5Law();
        promise5YearsForNewFilesRestForAll();
        promise6QualityRoundsAtEachStep();
        promises6To9NoWay();
        promises6To9Refuse();
        promises6To9GreatestQualityFirst();
        promises8And9LeastCostThen();
        promises8And9FewestConvertersThen();
        promise9LowestConverterThen();
        promise9LowestConverterWhereTheyFirstDiffer();
        promises6To9WorseOnTheWayButBestInTheEnd();
        promise7AllWays();
        CHECK.end();
    }

    private static FormatVault inYear(int year) {
        FormatVault vault = new FormatVault();
        for (int i = 0; i < year; i++) {
            vault.begin();
        }
        return vault;
    }

    private static void promise1NewObject() {
        FormatVault vault = new FormatVault();
        CHECK.same("year of a new one", vault.year(), 0);
        CHECK.same("left of a new one", vault.left(), 1000);
        CHECK.same("overdue of a new one", vault.overdue(), 0);
        CHECK.same("moveAhead of a new one", vault.moveAhead(), 0);
        CHECK.noSuch("withdraw of a new one", () -> vault.withdraw(0));
        CHECK.noSuch("stateOf of a new one", () -> vault.stateOf(0));
        for (int from = 0; from < 10; from++) {
            for (int to = 0; to < 10; to++) {
                CHECK.same("quality of a new one", vault.quality(from, to), from == to ? 1000 : NONE);
            }
        }
        for (int law = 0; law < 5; law++) {
            int file = vault.file(law, 1, law);
            CHECK.same("number of a file of a new one", file, law);
            CHECK.same("end by a law of a new one", vault.endOf(file), 10);
            CHECK.same("promise of a new one", vault.promise(law, law), 100);
        }
        CHECK.same("converter of a new one", vault.converter(0, 1, 0, 0), 0);
        CHECK.same("setBudget of a new one", vault.setBudget(0), 1000);
        for (int format = 0; format < 10; format++) {
            CHECK.same("setLast of a new one", vault.setLast(format, 0), NONE);
        }
        FormatVault other = new FormatVault();
        CHECK.same("quality beside another object", other.quality(0, 1), NONE);
        CHECK.noSuch("file beside another object", () -> other.stateOf(0));
    }

    private static void promise2SetLast() {
        FormatVault vault = new FormatVault();
        CHECK.same("setLast(0, 0)", vault.setLast(0, 0), NONE);
        CHECK.same("setLast(0, 1000)", vault.setLast(0, 1000), 0);
        CHECK.same("setLast(0, NONE)", vault.setLast(0, NONE), 1000);
        CHECK.same("setLast(0, NONE) again", vault.setLast(0, NONE), NONE);
        CHECK.same("setLast(9, 7)", vault.setLast(9, 7), NONE);
        for (int format : new int[] {-1, 10, MIN, MAX}) {
            CHECK.noSuch("setLast of format " + format, () -> vault.setLast(format, 5));
            CHECK.noSuch("setLast, both wrong", () -> vault.setLast(format, -2));
        }
        for (int last : new int[] {-2, 1001, MIN, MAX}) {
            CHECK.outOfRange("setLast to " + last, () -> vault.setLast(9, last));
        }
        CHECK.same("setLast(9, 8) behind refusals", vault.setLast(9, 8), 7);
    }

    private static void promise2LastYearsByNow() {
        FormatVault vault = inYear(5);
        CHECK.outOfRange("setLast to the year ahead of now", () -> vault.setLast(0, 4));
        CHECK.outOfRange("setLast to 0 in the year 5", () -> vault.setLast(0, 0));
        CHECK.same("setLast to now", vault.setLast(0, 5), NONE);
        CHECK.same("setLast in its last year", vault.setLast(0, 6), 5);
        CHECK.same("setLast to now again", vault.setLast(0, 5), 6);
        vault.begin();
        CHECK.notNow("setLast behind its last year", () -> vault.setLast(0, 9));
        CHECK.notNow("setLast to NONE behind its last year", () -> vault.setLast(0, NONE));
        CHECK.outOfRange("setLast, range ahead of state", () -> vault.setLast(0, 5));
    }

    private static void promise3Converter() {
        FormatVault vault = new FormatVault();
        CHECK.same("converter(0, 1, 0, 0)", vault.converter(0, 1, 0, 0), 0);
        CHECK.same("converter(9, 8, 500, 100)", vault.converter(9, 8, 500, 100), 1);
        CHECK.same("its quality", vault.quality(9, 8), 500);
        CHECK.same("its cost", vault.cost(9, 8), 100);
        CHECK.same("not the other way", vault.quality(8, 9), NONE);
        for (int format : new int[] {-1, 10, MIN, MAX}) {
            CHECK.noSuch("converter from " + format, () -> vault.converter(format, 0, 0, 0));
            CHECK.noSuch("converter to " + format, () -> vault.converter(0, format, 0, 0));
            CHECK.noSuch("converter, all wrong", () -> vault.converter(format, format, 501, 101));
        }
        for (int loss : new int[] {-1, 501, MIN, MAX}) {
            CHECK.outOfRange("converter with loss " + loss, () -> vault.converter(2, 3, loss, 0));
        }
        for (int cost : new int[] {-1, 101, MIN, MAX}) {
            CHECK.outOfRange("converter with cost " + cost, () -> vault.converter(2, 3, 0, cost));
        }
        CHECK.outOfRange("converter to the same", () -> vault.converter(4, 4, 0, 0));
        CHECK.same("converter behind refusals", vault.converter(0, 1, 0, 0), 2);
        CHECK.same("no way by the refused ones", vault.quality(2, 3), NONE);
        vault.setLast(5, 0);
        vault.begin();
        CHECK.same("converter from a format that ended", vault.converter(5, 6, 10, 1), 3);
        CHECK.same("converter to a format that ended", vault.converter(6, 5, 10, 1), 4);
        CHECK.same("a way to a format that ended", vault.quality(6, 5), 990);
    }

    private static void promise3AtMostThirty() {
        FormatVault vault = new FormatVault();
        for (int i = 0; i < 30; i++) {
            CHECK.same("converter " + i, vault.converter(i % 9, 9, i, i), i);
        }
        CHECK.notNow("converter 30", () -> vault.converter(0, 1, 0, 0));
        CHECK.outOfRange("converter 30 out of range", () -> vault.converter(0, 1, 501, 0));
        CHECK.outOfRange("converter 30 to the same", () -> vault.converter(1, 1, 0, 0));
        CHECK.noSuch("converter 30 to no format", () -> vault.converter(0, 10, 0, 0));
        CHECK.same("withdraw(29)", vault.withdraw(29), 0);
        CHECK.notNow("converter 30, one withdrawn", () -> vault.converter(0, 1, 0, 0));
        CHECK.same("nothing was added", vault.quality(0, 1), NONE);
    }

    private static void promise4Withdraw() {
        FormatVault vault = new FormatVault();
        vault.converter(0, 1, 100, 1);
        vault.converter(0, 1, 200, 1);
        CHECK.same("quality by the better one", vault.quality(0, 1), 900);
        for (int converter : new int[] {-1, 2, 30, MIN, MAX}) {
            CHECK.noSuch("withdraw " + converter, () -> vault.withdraw(converter));
        }
        CHECK.same("withdraw(0)", vault.withdraw(0), 0);
        CHECK.same("quality by the other one", vault.quality(0, 1), 800);
        CHECK.same("qualityByAll by the other one", vault.qualityByAll(0, 1), 800);
        CHECK.notNow("withdraw(0) again", () -> vault.withdraw(0));
        CHECK.same("withdraw(1)", vault.withdraw(1), 0);
        CHECK.same("quality by none", vault.quality(0, 1), NONE);
        CHECK.same("cost by none", vault.cost(0, 1), NONE);
        CHECK.same("stepAt by none", vault.stepAt(0, 1, 0), NONE);
        CHECK.same("converter behind withdrawn ones", vault.converter(0, 1, 300, 1), 2);
        CHECK.same("quality by the new one", vault.quality(0, 1), 700);
    }

    private static void promise4CountsLostHavens() {
        FormatVault vault = new FormatVault();
        vault.converter(0, 1, 0, 0);
        vault.converter(0, 2, 500, 0);
        vault.law(1, 10, 600, 5);
        vault.setLast(0, 3);
        vault.file(0, 1, 0);
        vault.file(0, 1, 1);
        vault.file(0, 1, 1);
        vault.file(1, 1, 1);
        CHECK.same("withdraw, two have no haven any more", vault.withdraw(0), 2);
        CHECK.same("one still has another haven", vault.haven(0), 2);
        CHECK.same("one has none", vault.haven(1), NONE);
        CHECK.same("one is safe where it is", vault.haven(3), 1);
        CHECK.same("withdraw, one has no haven any more", vault.withdraw(1), 1);
    }

    private static void promise4CountsOnlyKeptFilesThatHadOne() {
        FormatVault vault = new FormatVault();
        vault.converter(0, 1, 0, 0);
        vault.law(0, 1, 0, 5);
        vault.law(1, 20, 0, 5);
        vault.law(2, 20, 999, 5);
        vault.converter(2, 0, 100, 0);
        vault.setLast(0, 5);
        vault.file(0, 1, 0);
        vault.file(0, 1, 1);
        vault.file(2, 1, 2);
        vault.move(2, 0);
        vault.begin();
        vault.begin();
        CHECK.same("the first one is released", vault.stateOf(0), FormatVault.RELEASED);
        CHECK.same("the third one never had a haven", vault.haven(2), NONE);
        CHECK.same("withdraw counts the second one", vault.withdraw(0), 1);
    }

    private static void promise5Law() {
        FormatVault vault = new FormatVault();
        for (int law : new int[] {-1, 5, MIN, MAX}) {
            CHECK.noSuch("law " + law, () -> vault.law(law, 1, 0, 1));
            CHECK.noSuch("law, all wrong", () -> vault.law(law, 0, -1, 0));
        }
        for (int years : new int[] {-1, 0, 101, MIN, MAX}) {
            CHECK.outOfRange("law of years " + years, () -> vault.law(0, years, 5, 1));
        }
        for (int least : new int[] {-1, 1001, MIN, MAX}) {
            CHECK.outOfRange("law of least " + least, () -> vault.law(0, 1, least, 1));
        }
        for (int reads : new int[] {-1, 0, 51, MIN, MAX}) {
            CHECK.outOfRange("law of reads " + reads, () -> vault.law(0, 1, 5, reads));
        }
        CHECK.same("end by a law that was not changed", vault.endOf(vault.file(0, 1, 0)), 10);
        vault.law(0, 1, 0, 1);
        CHECK.same("end by 1 year", vault.endOf(vault.file(0, 1, 0)), 1);
        vault.law(4, 100, 1000, 50);
        CHECK.same("end by 100 years", vault.endOf(vault.file(0, 1, 4)), 100);
        CHECK.same("end by another law", vault.endOf(vault.file(0, 1, 1)), 10);
    }

    private static void promise5YearsForNewFilesRestForAll() {
        FormatVault vault = new FormatVault();
        vault.converter(0, 1, 100, 0);
        int file = vault.file(0, 1, 3);
        vault.move(file, 1);
        vault.law(3, 50, 901, 1);
        CHECK.same("the end stays", vault.endOf(file), 10);
        CHECK.same("a new end", vault.endOf(vault.file(0, 1, 3)), 50);
        CHECK.notNow("the least quality is for all", () -> vault.read(file));
        CHECK.same("no haven by it", vault.haven(file), NONE);
        vault.law(3, 50, 900, 1);
        CHECK.same("a haven by a lower one", vault.haven(file), 1);
        vault.begin();
        CHECK.same("not overdue behind 1 year", vault.overdue(), 0);
        vault.begin();
        CHECK.same("overdue behind 2 years", vault.overdue(), 2);
        vault.law(3, 50, 900, 2);
        CHECK.same("the reads are for all", vault.overdue(), 0);
    }

    private static void promise6QualityRoundsAtEachStep() {
        FormatVault vault = new FormatVault();
        vault.converter(0, 1, 1, 3);
        vault.converter(1, 2, 1, 4);
        vault.converter(2, 3, 333, 5);
        CHECK.same("999", vault.quality(0, 1), 999);
        CHECK.same("998.001 rounded down", vault.quality(0, 2), 998);
        CHECK.same("998 * 0.667 rounded down", vault.quality(0, 3), 665);
        CHECK.same("the cost is the sum", vault.cost(0, 3), 12);
        FormatVault losing = new FormatVault();
        for (int i = 0; i < 9; i++) {
            losing.converter(i, i + 1, 500, 100);
        }
        CHECK.same("1000 halved nine times", losing.quality(0, 9), 1);
        CHECK.same("the longest way by all", losing.qualityByAll(0, 9), 1);
        CHECK.same("the dearest way", losing.cost(0, 9), 900);
        CHECK.same("its last converter", losing.stepAt(0, 9, 8), 8);
        CHECK.same("none behind it", losing.stepAt(0, 9, 9), NONE);
    }

    private static void promises6To9NoWay() {
        FormatVault vault = new FormatVault();
        vault.converter(0, 1, 10, 10);
        vault.converter(2, 1, 10, 10);
        CHECK.same("quality without a way", vault.quality(0, 2), NONE);
        CHECK.same("qualityByAll without a way", vault.qualityByAll(0, 2), NONE);
        CHECK.same("cost without a way", vault.cost(0, 2), NONE);
        CHECK.same("stepAt without a way", vault.stepAt(0, 2, 0), NONE);
        CHECK.same("quality to itself", vault.quality(1, 1), 1000);
        CHECK.same("qualityByAll to itself", vault.qualityByAll(1, 1), 1000);
        CHECK.same("cost to itself", vault.cost(1, 1), 0);
        CHECK.same("stepAt to itself", vault.stepAt(1, 1, 0), NONE);
        vault.converter(1, 0, 0, 0);
        CHECK.same("quality to itself beside a round", vault.quality(0, 0), 1000);
        CHECK.same("cost to itself beside a round", vault.cost(0, 0), 0);
        CHECK.same("stepAt to itself beside a round", vault.stepAt(0, 0, 0), NONE);
    }

    private static void promises6To9Refuse() {
        FormatVault vault = new FormatVault();
        vault.converter(0, 1, 10, 10);
        for (int format : new int[] {-1, 10, MIN, MAX}) {
            CHECK.noSuch("quality from " + format, () -> vault.quality(format, 1));
            CHECK.noSuch("quality to " + format, () -> vault.quality(1, format));
            CHECK.noSuch("quality of both " + format, () -> vault.quality(format, format));
            CHECK.noSuch("qualityByAll from " + format, () -> vault.qualityByAll(format, 1));
            CHECK.noSuch("qualityByAll to " + format, () -> vault.qualityByAll(1, format));
            CHECK.noSuch("qualityByAll of both " + format,
                    () -> vault.qualityByAll(format, format));
            CHECK.noSuch("cost from " + format, () -> vault.cost(format, 1));
            CHECK.noSuch("cost to " + format, () -> vault.cost(1, format));
            CHECK.noSuch("stepAt from " + format, () -> vault.stepAt(format, 1, 0));
            CHECK.noSuch("stepAt to " + format, () -> vault.stepAt(1, format, 0));
        }
        CHECK.noSuch("stepAt below 0", () -> vault.stepAt(0, 1, -1));
        CHECK.noSuch("stepAt far below 0", () -> vault.stepAt(0, 1, MIN));
        CHECK.noSuch("stepAt below 0 without a way", () -> vault.stepAt(2, 3, -1));
        CHECK.same("stepAt far behind the way", vault.stepAt(0, 1, MAX), NONE);
        CHECK.same("stepAt far behind no way", vault.stepAt(2, 3, MAX), NONE);
    }

    private static void promises6To9GreatestQualityFirst() {
        FormatVault vault = new FormatVault();
        vault.converter(0, 3, 3, 0);
        vault.converter(0, 1, 0, 100);
        vault.converter(1, 2, 1, 100);
        vault.converter(2, 3, 1, 100);
        CHECK.same("the long and dear one is the best", vault.quality(0, 3), 998);
        CHECK.same("its cost", vault.cost(0, 3), 300);
        for (int place = 0; place < 3; place++) {
            CHECK.same("its converters", vault.stepAt(0, 3, place), place + 1);
        }
    }

    private static void promises8And9LeastCostThen() {
        FormatVault vault = new FormatVault();
        vault.converter(0, 2, 10, 8);
        vault.converter(0, 1, 0, 3);
        vault.converter(1, 2, 10, 4);
        CHECK.same("the cheaper one, though longer", vault.cost(0, 2), 7);
        CHECK.same("its first converter", vault.stepAt(0, 2, 0), 1);
        CHECK.same("its second converter", vault.stepAt(0, 2, 1), 2);
        vault.converter(0, 2, 10, 6);
        CHECK.same("a still cheaper one", vault.cost(0, 2), 6);
        CHECK.same("its converter", vault.stepAt(0, 2, 0), 3);
    }

    private static void promises8And9FewestConvertersThen() {
        FormatVault vault = new FormatVault();
        vault.converter(0, 1, 0, 3);
        vault.converter(1, 2, 10, 4);
        CHECK.same("the only one", vault.stepAt(0, 2, 0), 0);
        vault.converter(0, 2, 10, 7);
        CHECK.same("the shorter one, though higher", vault.stepAt(0, 2, 0), 2);
        CHECK.same("nothing behind it", vault.stepAt(0, 2, 1), NONE);
        CHECK.same("the same cost", vault.cost(0, 2), 7);
    }

    private static void promise9LowestConverterThen() {
        FormatVault vault = new FormatVault();
        vault.converter(0, 1, 5, 5);
        vault.converter(0, 1, 5, 5);
        CHECK.same("the lower one of two", vault.stepAt(0, 1, 0), 0);
        vault.withdraw(0);
        CHECK.same("the one that is left", vault.stepAt(0, 1, 0), 1);
        vault.converter(0, 1, 5, 5);
        CHECK.same("still the lower one", vault.stepAt(0, 1, 0), 1);
    }

    private static void promise9LowestConverterWhereTheyFirstDiffer() {
        FormatVault vault = new FormatVault();
        vault.converter(2, 3, 5, 5);
        vault.converter(0, 1, 5, 5);
        vault.converter(0, 2, 5, 5);
        vault.converter(1, 3, 5, 5);
        vault.converter(1, 3, 5, 5);
        CHECK.same("the first one decides, not the lowest", vault.stepAt(0, 3, 0), 1);
        CHECK.same("the second one decides then", vault.stepAt(0, 3, 1), 3);
    }

    /** To format 1 the dearer way is better by 1, which the next converter rounds away. */
    private static void promises6To9WorseOnTheWayButBestInTheEnd() {
        FormatVault vault = new FormatVault();
        vault.converter(0, 1, 0, 9);
        vault.converter(0, 1, 1, 8);
        vault.converter(1, 2, 500, 1);
        CHECK.same("the best way to 1", vault.stepAt(0, 1, 0), 0);
        CHECK.same("500 by the one, 499 by the other", vault.quality(0, 2), 500);
        CHECK.same("its cost", vault.cost(0, 2), 10);
        vault.converter(0, 3, 2, 9);
        vault.converter(0, 3, 3, 8);
        vault.converter(3, 4, 500, 1);
        CHECK.same("499 by the one, 498 by the other", vault.stepAt(0, 4, 0), 3);
        vault.converter(0, 5, 4, 9);
        vault.converter(0, 5, 3, 9);
        vault.converter(0, 5, 4, 8);
        vault.converter(5, 6, 499, 1);
        vault.converter(5, 7, 500, 1);
        CHECK.same("the best way to 5", vault.stepAt(0, 5, 0), 7);
        CHECK.same("997 * 0.501 and 996 * 0.501", vault.stepAt(0, 6, 0), 7);
        CHECK.same("both ways are 498 now", vault.quality(0, 7), 498);
        CHECK.same("so the cheaper one is the best", vault.stepAt(0, 7, 0), 8);
        CHECK.same("with its cost", vault.cost(0, 7), 9);
        shorterInTheEnd();
        lowerInTheEnd();
    }

    private static void shorterInTheEnd() {
        FormatVault vault = new FormatVault();
        vault.converter(0, 1, 2, 4);
        vault.converter(1, 2, 1, 4);
        vault.converter(0, 2, 4, 8);
        vault.converter(2, 3, 500, 0);
        CHECK.same("997 by two converters", vault.stepAt(0, 2, 0), 0);
        CHECK.same("498 by one fewer", vault.stepAt(0, 3, 0), 2);
        CHECK.same("498 by one fewer, its second", vault.stepAt(0, 3, 1), 3);
    }

    private static void lowerInTheEnd() {
        FormatVault vault = new FormatVault();
        vault.converter(0, 1, 4, 8);
        vault.converter(0, 1, 3, 8);
        vault.converter(1, 2, 500, 0);
        CHECK.same("997 by the higher one", vault.stepAt(0, 1, 0), 1);
        CHECK.same("498 by the lower one", vault.stepAt(0, 2, 0), 0);
    }

    private static void promise7AllWays() {
        FormatVault vault = new FormatVault();
        for (int i = 0; i < 30; i++) {
            vault.converter(i / 3, i / 3 == 9 ? i - 27 : (i / 3 + i % 3 + 1) % 10, 7 * i, i);
        }
        for (int from = 0; from < 10; from++) {
            for (int to = 0; to < 10; to++) {
                CHECK.same("qualityByAll(" + from + ", " + to + ")",
                        vault.qualityByAll(from, to), vault.quality(from, to));
            }
        }
    }
}
