/** The boundaries that promises 1 to 5 name. */
public final class FormatEdgesTest {
    private static final int NONE = FormatVault.NONE;
    private static final int KEPT = FormatVault.KEPT;
    private static final int RELEASED = FormatVault.RELEASED;
    private static final int LOST = FormatVault.LOST;
    private static final int MIN = Archives.MIN;
    private static final int MAX = Archives.MAX;
    private static final Check CHECK = new Check("edges of formats");

    public static void main(String[] args) {
        promise1FormatsAreWithoutEndAtFirst();
        promise1LawsAtFirst();
        promise1LeastQualityIsNothingAtFirst();
        promise1NothingThereYet();
        promise2FirstAndLastFormat();
        promise2LeastLastIsTheYearOfNow();
        promise2MinusOneIsNoneInTheYear0Too();
        promise2GreatestLast();
        promise2InItsLastYearAndBehindIt();
        promise2ReturnsTheOneBefore();
        promise3AllPairsOfFormats();
        promise3LeastAndGreatestLoss();
        promise3LeastAndGreatestCost();
        promise3NumbersUpTo29();
        promise3WithdrawnOnesCountToThe30();
        promise4FirstAndLastConverter();
        promise4IsForEver();
        promise4CountsNoneAndAll();
        promise4CountsNoneThatIsNotKept();
        promise4CountsNoneThatStillHasAHaven();
        promise4CountsHeldOnesAndBrokenWays();
        promise4CountsByTheLeastQuality();
        promise4CountsNoneThatGetsAHaven();
        promise5FirstAndLastLaw();
        promise5LeastAndGreatestYears();
        promise5LeastAndGreatestLeastQuality();
        promise5LeastAndGreatestReads();
        promise5OutsideOfEachRange();
        promise5YearsForNewFilesOnly();
        CHECK.end();
    }

    // ---- promise 1

    private static void promise1FormatsAreWithoutEndAtFirst() {
        for (int format = 0; format < 10; format++) {
            FormatVault vault = new FormatVault();
            int its = format;
            vault.file(format, 1, 0);
            vault.hold(0, true);
            CHECK.same("readable for ever: " + its, vault.isSafe(0), true);
            CHECK.same("promise in " + its, vault.promise(its, 0), 100);
            CHECK.same("last of " + its, vault.setLast(its, 0), NONE);
        }
    }

    private static void promise1LawsAtFirst() {
        for (int law = 0; law < 5; law++) {
            FormatVault vault = new FormatVault();
            vault.file(0, 1, law);
            CHECK.same("10 years by law " + law, vault.endOf(0), 10);
            Archives.begin(vault, 5);
            CHECK.same("5 years without reading by law " + law, vault.overdue(), 0);
            vault.begin();
            CHECK.same("6 years without reading by law " + law, vault.overdue(), 1);
            Archives.begin(vault, 4);
            CHECK.same("in the year 10 by law " + law, vault.stateOf(0), KEPT);
            vault.begin();
            CHECK.same("in the year 11 by law " + law, vault.stateOf(0), RELEASED);
        }
    }

    private static void promise1LeastQualityIsNothingAtFirst() {
        for (int law = 0; law < 5; law++) {
            FormatVault vault = new FormatVault();
            vault.converter(0, 1, 500, 0);
            vault.converter(1, 0, 500, 0);
            int file = Archives.worn(vault, law, 0);
            CHECK.same("nothing of it is left by law " + law, vault.qualityOf(file), 0);
            CHECK.same("it can be read by law " + law, vault.read(file), 0);
            CHECK.same("it has a haven by law " + law, vault.haven(file), 0);
        }
    }

    private static void promise1NothingThereYet() {
        FormatVault vault = new FormatVault();
        CHECK.same("year", vault.year(), 0);
        CHECK.same("left", vault.left(), 1000);
        CHECK.same("overdue", vault.overdue(), 0);
        CHECK.same("moveAhead", vault.moveAhead(), 0);
        CHECK.noSuch("withdraw", () -> vault.withdraw(0));
        CHECK.noSuch("hold", () -> vault.hold(0, true));
        CHECK.noSuch("read", () -> vault.read(0));
        CHECK.noSuch("move", () -> vault.move(0, 1));
        CHECK.noSuch("haven", () -> vault.haven(0));
        CHECK.noSuch("isSafe", () -> vault.isSafe(0));
        CHECK.noSuch("stateOf", () -> vault.stateOf(0));
        CHECK.noSuch("formatOf", () -> vault.formatOf(0));
        CHECK.noSuch("qualityOf", () -> vault.qualityOf(0));
        CHECK.noSuch("endOf", () -> vault.endOf(0));
        CHECK.same("begin", vault.begin(), 0);
        CHECK.same("year behind begin", vault.year(), 1);
        CHECK.same("left behind begin", vault.left(), 1000);
        CHECK.same("the first file", vault.file(0, 1, 0), 0);
        CHECK.same("the first converter", vault.converter(0, 1, 0, 0), 0);
    }

    // ---- promise 2

    private static void promise2FirstAndLastFormat() {
        FormatVault vault = new FormatVault();
        for (int format = 0; format < 10; format++) {
            CHECK.same("setLast of " + format, vault.setLast(format, 20 + format), NONE);
        }
        for (int format = 0; format < 10; format++) {
            CHECK.same("each has its own: " + format, vault.setLast(format, 0), 20 + format);
        }
        for (int format : Archives.outside(0, 9)) {
            CHECK.noSuch("setLast of " + format, () -> vault.setLast(format, 5));
            CHECK.noSuch("setLast of " + format + " to NONE", () -> vault.setLast(format, NONE));
        }
    }

    private static void promise2LeastLastIsTheYearOfNow() {
        for (int year : new int[] {1, 2, 10, 100, 400}) {
            FormatVault vault = Archives.inYear(year);
            CHECK.same("setLast to now", vault.setLast(3, year), NONE);
            CHECK.outOfRange("setLast to the year ahead of now", () -> vault.setLast(4, year - 1));
            CHECK.outOfRange("also if it has a last year", () -> vault.setLast(3, year - 1));
            CHECK.outOfRange("setLast to 0 behind it", () -> vault.setLast(4, 0));
            CHECK.same("the refused ones set nothing", vault.setLast(4, year + 1), NONE);
            CHECK.same("nor in place of another one", vault.setLast(3, year), year);
        }
    }

    private static void promise2MinusOneIsNoneInTheYear0Too() {
        FormatVault vault = new FormatVault();
        CHECK.same("setLast to 0 in the year 0", vault.setLast(0, 0), NONE);
        CHECK.same("setLast to -1 is no year ahead of now", vault.setLast(0, -1), 0);
        vault.begin();
        CHECK.same("it is without end", vault.setLast(0, 1), NONE);
        CHECK.outOfRange("setLast to -2 is out of range", () -> vault.setLast(0, -2));
        CHECK.outOfRange("as is the least int", () -> vault.setLast(0, MIN));
        CHECK.same("setLast to NONE in another year", vault.setLast(0, NONE), 1);
        CHECK.same("it is without end again", vault.promise(0, 0), 100);
    }

    private static void promise2GreatestLast() {
        for (int year : new int[] {0, 5, 400}) {
            FormatVault vault = Archives.inYear(year);
            CHECK.same("setLast to 1000", vault.setLast(9, 1000), NONE);
            CHECK.outOfRange("setLast to 1001", () -> vault.setLast(9, 1001));
            CHECK.outOfRange("setLast to the greatest int", () -> vault.setLast(9, MAX));
            CHECK.same("1000 is the one before", vault.setLast(9, NONE), 1000);
            CHECK.outOfRange("setLast to 1001 from none", () -> vault.setLast(9, 1001));
            CHECK.same("none is the one before", vault.setLast(9, 999), NONE);
        }
    }

    private static void promise2InItsLastYearAndBehindIt() {
        FormatVault vault = new FormatVault();
        vault.setLast(0, 2);
        vault.setLast(1, 2);
        vault.setLast(2, 2);
        Archives.begin(vault, 2);
        CHECK.same("can be read in its last year", vault.file(0, 1, 0), 0);
        CHECK.same("so its last year can be set", vault.setLast(0, 3), 2);
        CHECK.same("or taken away", vault.setLast(1, NONE), 2);
        vault.begin();
        CHECK.notNow("behind its last year", () -> vault.setLast(2, 3));
        CHECK.notNow("to 1000", () -> vault.setLast(2, 1000));
        CHECK.notNow("to NONE", () -> vault.setLast(2, NONE));
        CHECK.same("the next year was enough for another one", vault.setLast(0, 4), 3);
        CHECK.same("as was none", vault.setLast(1, 4), NONE);
        Archives.begin(vault, 100);
        CHECK.notNow("long behind its last year", () -> vault.setLast(2, NONE));
    }

    private static void promise2ReturnsTheOneBefore() {
        FormatVault vault = new FormatVault();
        CHECK.same("NONE at first", vault.setLast(5, NONE), NONE);
        CHECK.same("NONE in place of NONE", vault.setLast(5, 7), NONE);
        CHECK.same("a later one", vault.setLast(5, 8), 7);
        CHECK.same("an earlier one", vault.setLast(5, 0), 8);
        CHECK.same("the same one", vault.setLast(5, 0), 0);
        CHECK.same("none in its place", vault.setLast(5, NONE), 0);
    }

    // ---- promise 3

    private static void promise3AllPairsOfFormats() {
        for (int from = 0; from < 10; from++) {
            FormatVault vault = new FormatVault();
            int its = from;
            int due = 0;
            for (int to = 0; to < 10; to++) {
                int other = to;
                if (from == to) {
                    CHECK.outOfRange(its + " to itself", () -> vault.converter(its, other, 0, 0));
                    continue;
                }
                CHECK.same(its + " to " + to, vault.converter(its, to, to, from), due);
                CHECK.same("its way", vault.stepAt(its, to, 0), due);
                CHECK.same("its quality", vault.quality(its, to), 1000 - to);
                CHECK.same("its cost", vault.cost(its, to), from);
                CHECK.same("there is no way back", vault.quality(to, its), NONE);
                due++;
            }
            for (int wrong : Archives.outside(0, 9)) {
                CHECK.noSuch(its + " to " + wrong, () -> vault.converter(its, wrong, 0, 0));
                CHECK.noSuch(wrong + " to " + its, () -> vault.converter(wrong, its, 0, 0));
            }
            CHECK.same("nothing was added", vault.converter(its, 9 - its, 0, 0), due);
        }
    }

    private static void promise3LeastAndGreatestLoss() {
        FormatVault vault = new FormatVault();
        int[] losses = {0, 1, 499, 500};
        for (int i = 0; i < 4; i++) {
            CHECK.same("loss " + losses[i], vault.converter(2 * i, 2 * i + 1, losses[i], 0), i);
            CHECK.same("its quality", vault.quality(2 * i, 2 * i + 1), 1000 - losses[i]);
        }
        for (int loss : Archives.outside(0, 500)) {
            CHECK.outOfRange("loss " + loss, () -> vault.converter(8, 9, loss, 0));
        }
        CHECK.same("nothing was added", vault.quality(8, 9), NONE);
        CHECK.same("nor counted", vault.converter(8, 9, 0, 0), 4);
    }

    private static void promise3LeastAndGreatestCost() {
        FormatVault vault = new FormatVault();
        int[] costs = {0, 1, 99, 100};
        for (int i = 0; i < 4; i++) {
            CHECK.same("cost " + costs[i], vault.converter(2 * i, 2 * i + 1, 0, costs[i]), i);
            CHECK.same("its cost", vault.cost(2 * i, 2 * i + 1), costs[i]);
        }
        for (int cost : Archives.outside(0, 100)) {
            CHECK.outOfRange("cost " + cost, () -> vault.converter(8, 9, 0, cost));
        }
        CHECK.same("nothing was added", vault.cost(8, 9), NONE);
        CHECK.same("nor counted", vault.converter(8, 9, 0, 0), 4);
    }

    private static void promise3NumbersUpTo29() {
        FormatVault vault = new FormatVault();
        for (int i = 0; i < 30; i++) {
            CHECK.same("all 30 of the same two formats", vault.converter(4, 7, 30 - i, i), i);
            CHECK.same("the newest is the best", vault.stepAt(4, 7, 0), i);
        }
        CHECK.notNow("the 31st", () -> vault.converter(4, 7, 0, 0));
        CHECK.notNow("the 31st of others", () -> vault.converter(7, 4, 500, 100));
        CHECK.same("the best is the last one", vault.stepAt(4, 7, 0), 29);
        CHECK.same("no way by the refused one", vault.quality(7, 4), NONE);
    }

    private static void promise3WithdrawnOnesCountToThe30() {
        FormatVault vault = new FormatVault();
        for (int i = 0; i < 29; i++) {
            vault.converter(0, 1, 0, 0);
            vault.withdraw(i);
        }
        CHECK.same("the 30th behind 29 withdrawn ones", vault.converter(0, 1, 0, 0), 29);
        CHECK.same("withdraw of the 30th", vault.withdraw(29), 0);
        CHECK.notNow("the 31st behind 30 withdrawn ones", () -> vault.converter(0, 1, 0, 0));
        CHECK.same("no way is left", vault.quality(0, 1), NONE);
    }

    // ---- promise 4

    private static void promise4FirstAndLastConverter() {
        FormatVault vault = new FormatVault();
        for (int wrong : new int[] {-1, 0, 1, 29, 30, MIN, MAX}) {
            CHECK.noSuch("withdraw, none there: " + wrong, () -> vault.withdraw(wrong));
        }
        for (int i = 0; i < 30; i++) {
            int next = i;
            CHECK.noSuch("withdraw ahead of its making", () -> vault.withdraw(next));
            vault.converter(i % 9, 9, i, 0);
        }
        for (int wrong : Archives.outside(0, 29)) {
            CHECK.noSuch("withdraw of 30: " + wrong, () -> vault.withdraw(wrong));
        }
        CHECK.same("withdraw of the first", vault.withdraw(0), 0);
        CHECK.same("the best is another one", vault.stepAt(0, 9, 0), 9);
        CHECK.same("withdraw of the last", vault.withdraw(29), 0);
        CHECK.notNow("the first again", () -> vault.withdraw(0));
        CHECK.notNow("the last again", () -> vault.withdraw(29));
    }

    private static void promise4IsForEver() {
        FormatVault vault = new FormatVault();
        vault.converter(0, 1, 0, 0);
        vault.withdraw(0);
        vault.converter(0, 1, 10, 1);
        vault.converter(1, 2, 0, 0);
        CHECK.same("a new one does not bring it back", vault.stepAt(0, 1, 0), 1);
        Archives.begin(vault, 3);
        CHECK.same("nor do years", vault.quality(0, 2), 990);
        CHECK.same("by all", vault.qualityByAll(0, 2), 990);
        CHECK.notNow("withdraw years behind", () -> vault.withdraw(0));
    }

    private static void promise4CountsNoneAndAll() {
        FormatVault vault = new FormatVault();
        vault.converter(0, 1, 0, 0);
        vault.converter(2, 1, 0, 0);
        vault.setLast(0, 5);
        for (int i = 0; i < 40; i++) {
            vault.file(0, 1, i % 5);
        }
        CHECK.same("the other one is no way of any", vault.withdraw(1), 0);
        CHECK.same("all 40 have no haven any more", vault.withdraw(0), 40);
        vault.converter(0, 1, 0, 0);
        CHECK.same("a new one gives them one", vault.haven(39), 1);
        CHECK.same("and takes it again", vault.withdraw(2), 40);
        FormatVault empty = Archives.row(0, 0);
        CHECK.same("none without files", empty.withdraw(4), 0);
    }

    private static void promise4CountsNoneThatIsNotKept() {
        FormatVault vault = new FormatVault();
        vault.law(0, 1, 0, 5);
        vault.converter(0, 2, 0, 0);
        vault.converter(1, 2, 0, 0);
        vault.setLast(0, 1);
        vault.setLast(1, 9);
        vault.file(0, 1, 1);
        vault.file(1, 1, 0);
        vault.file(1, 1, 1);
        Archives.begin(vault, 2);
        CHECK.same("the first is lost", vault.stateOf(0), LOST);
        CHECK.same("the second is released", vault.stateOf(1), RELEASED);
        CHECK.same("a lost one does not count", vault.withdraw(0), 0);
        CHECK.same("nor does a released one", vault.withdraw(1), 1);
    }

    private static void promise4CountsNoneThatStillHasAHaven() {
        FormatVault vault = new FormatVault();
        vault.converter(0, 1, 0, 0);
        vault.converter(0, 2, 400, 0);
        vault.converter(0, 1, 300, 0);
        vault.file(0, 1, 0);
        CHECK.same("it was its own haven", vault.withdraw(0), 0);
        vault.setLast(0, 5);
        CHECK.same("it has another way to it", vault.haven(0), 1);
        CHECK.same("it has another haven", vault.withdraw(2), 0);
        CHECK.same("a worse one", vault.haven(0), 2);
        CHECK.same("the last one", vault.withdraw(1), 1);
        CHECK.same("a new one, the only one", vault.withdraw(vault.converter(0, 1, 0, 0)), 1);
        vault.setLast(1, 5);
        CHECK.same("a format that is not safe was no haven", vault.withdraw(vault.converter(0, 1, 0, 0)), 0);
    }

    private static void promise4CountsHeldOnesAndBrokenWays() {
        FormatVault vault = Archives.row(1, 1);
        for (int i = 0; i < 9; i++) {
            vault.setLast(i, 20);
            vault.file(i, 1, 0);
            vault.hold(i, true);
        }
        CHECK.same("held ones ahead of the break", vault.withdraw(4), 5);
        CHECK.same("those behind it have havens", vault.haven(5), 9);
        CHECK.same("the last step", vault.withdraw(8), 4);
        CHECK.same("no haven was left to lose", vault.withdraw(0), 0);
        vault.hold(0, false);
        CHECK.same("not held, it is safe", vault.haven(0), 0);
    }

    private static void promise4CountsByTheLeastQuality() {
        FormatVault vault = new FormatVault();
        vault.converter(0, 1, 100, 0);
        vault.converter(0, 1, 101, 0);
        vault.setLast(0, 5);
        vault.law(1, 10, 900, 5);
        vault.law(2, 10, 899, 5);
        vault.law(3, 10, 901, 5);
        for (int law = 1; law < 4; law++) {
            vault.file(0, 1, law);
        }
        CHECK.same("899 is below 900, and enough for 899", vault.withdraw(0), 1);
        CHECK.same("899 was enough", vault.withdraw(1), 1);
    }

    /**
     * Of 500, 499 and then 498 are left over format 2, but 499 by converter 3. Without the way over
     * 2, which is the best one of 1000, file 0 gets a haven, and file 1 has none any more.
     */
    private static void promise4CountsNoneThatGetsAHaven() {
        FormatVault vault = new FormatVault();
        vault.converter(0, 1, 500, 0);
        vault.converter(1, 2, 1, 0);
        vault.converter(2, 3, 1, 0);
        vault.converter(1, 3, 2, 1);
        vault.converter(2, 4, 0, 0);
        vault.law(0, 10, 499, 5);
        vault.setLast(1, 5);
        vault.setLast(2, 5);
        vault.file(0, 1, 0);
        vault.move(0, 1);
        vault.file(2, 1, 0);
        vault.withdraw(4);
        CHECK.same("498 by the best way", vault.haven(0), NONE);
        CHECK.same("999 of the other file", vault.haven(1), 3);
        CHECK.same("one has no haven any more", vault.withdraw(2), 1);
        CHECK.same("499 by the best way that is left", vault.haven(0), 3);
        CHECK.same("the other one has none", vault.haven(1), NONE);
    }

    // ---- promise 5

    private static void promise5FirstAndLastLaw() {
        FormatVault vault = new FormatVault();
        for (int law = 0; law < 5; law++) {
            vault.law(law, 20 + law, 0, 5);
        }
        for (int law = 0; law < 5; law++) {
            CHECK.same("end by law " + law, vault.endOf(vault.file(0, 1, law)), 20 + law);
        }
        for (int law : Archives.outside(0, 4)) {
            CHECK.noSuch("law " + law, () -> vault.law(law, 1, 0, 1));
        }
    }

    private static void promise5LeastAndGreatestYears() {
        for (int years : new int[] {1, 2, 99, 100}) {
            FormatVault vault = Archives.inYear(3);
            vault.law(4, years, 0, 1);
            vault.file(0, 1, 4);
            CHECK.same("end by " + years + " years", vault.endOf(0), 3 + years);
            Archives.begin(vault, years);
            CHECK.same("kept in the year of its end", vault.stateOf(0), KEPT);
            vault.begin();
            CHECK.same("released behind it", vault.stateOf(0), RELEASED);
        }
    }

    private static void promise5LeastAndGreatestLeastQuality() {
        FormatVault vault = new FormatVault();
        vault.converter(0, 1, 1, 0);
        vault.file(0, 1, 2);
        vault.file(0, 1, 2);
        vault.law(2, 10, 1000, 5);
        vault.move(1, 1);
        CHECK.same("1000 is enough for 1000", vault.read(0), 0);
        CHECK.notNow("999 is not", () -> vault.read(1));
        vault.law(2, 10, 999, 5);
        CHECK.same("999 is enough for 999", vault.read(1), 0);
        FormatVault worn = new FormatVault();
        worn.converter(0, 1, 500, 0);
        worn.converter(1, 0, 500, 0);
        int none = Archives.worn(worn, 0, 0);
        int one = Archives.worn(worn, 0, 1);
        worn.law(0, 10, 1, 5);
        CHECK.notNow("nothing is not enough for 1", () -> worn.read(none));
        CHECK.same("1 is", worn.read(one), 0);
        worn.law(0, 10, 0, 5);
        CHECK.same("nothing is enough for 0", worn.read(none), 0);
    }

    private static void promise5LeastAndGreatestReads() {
        for (int reads : new int[] {1, 2, 49, 50}) {
            FormatVault vault = Archives.inYear(2);
            vault.law(0, 100, 0, reads);
            vault.file(0, 1, 0);
            Archives.begin(vault, reads);
            CHECK.same("not overdue behind " + reads, vault.overdue(), 0);
            vault.begin();
            CHECK.same("overdue one year behind that", vault.overdue(), 1);
        }
    }

    private static void promise5OutsideOfEachRange() {
        FormatVault vault = new FormatVault();
        vault.law(0, 8, 1000, 2);
        vault.converter(0, 1, 1, 0);
        vault.file(0, 1, 0);
        vault.move(0, 1);
        for (int years : Archives.outside(1, 100)) {
            CHECK.outOfRange("years " + years, () -> vault.law(0, years, 0, 50));
        }
        for (int least : Archives.outside(0, 1000)) {
            CHECK.outOfRange("least " + least, () -> vault.law(0, 20, least, 50));
        }
        for (int reads : Archives.outside(1, 50)) {
            CHECK.outOfRange("reads " + reads, () -> vault.law(0, 20, 0, reads));
        }
        CHECK.same("the years stay", vault.endOf(vault.file(0, 1, 0)), 8);
        CHECK.notNow("the least quality stays", () -> vault.read(0));
        Archives.begin(vault, 3);
        CHECK.same("the reads stay", vault.overdue(), 2);
    }

    private static void promise5YearsForNewFilesOnly() {
        FormatVault vault = new FormatVault();
        vault.law(0, 5, 0, 5);
        vault.file(0, 1, 0);
        vault.law(0, 1, 0, 5);
        CHECK.same("fewer years leave the end", vault.endOf(0), 5);
        vault.law(0, 100, 0, 5);
        CHECK.same("more years leave the end", vault.endOf(0), 5);
        vault.setLast(0, 5);
        CHECK.same("it is safe by its own end", vault.isSafe(0), true);
        Archives.begin(vault, 5);
        CHECK.same("kept in the year of that end", vault.stateOf(0), KEPT);
        vault.setLast(0, NONE);
        vault.begin();
        CHECK.same("released behind it", vault.stateOf(0), RELEASED);
        CHECK.same("a new one has the new years", vault.endOf(vault.file(0, 1, 0)), 106);
    }
}
