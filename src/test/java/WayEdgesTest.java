import java.util.List;

/** The boundaries that promises 6 to 9 name. */
public final class WayEdgesTest {
    private static final int NONE = FormatVault.NONE;
    private static final int MAX = Archives.MAX;
    private static final int MIN = Archives.MIN;
    private static final Check CHECK = new Check("edges of ways");

    public static void main(String[] args) {
        promises6To9NoConvertersYet();
        promises6To9AllConvertersWithdrawn();
        promises6To9FirstAndLastFormat();
        promises6To9ToItself();
        promises6To9LongestWay();
        promises6To9NoFormatTwice();
        promises6To9RoundsWithoutLossAndCost();
        promises6To9OverFormatsThatEnded();
        promises6To9ChangeWithConverters();
        promises6To9AsTheNaiveOneAnswers();
        promise6RoundedDownAtEachStep();
        promise6LeastQuality();
        promise6GreaterByOne();
        promise6RoundedAwayByTheLastStep();
        promise7ThirtyConverters();
        promise7AsManyWaysAsCanBe();
        promise7EverySmallNetwork();
        promise8LeastAndGreatestCost();
        promise8CheaperByOne();
        promise8OfTheBestWayNotOfTheCheapest();
        promise9FewerByOne();
        promise9LowestWhereTheyFirstDiffer();
        promise9FewestAheadOfLowest();
        promise9Places();
        CHECK.end();
    }

    private static void noWay(FormatVault vault, int from, int to) {
        String way = " from " + from + " to " + to;
        CHECK.same("quality" + way, vault.quality(from, to), NONE);
        CHECK.same("qualityByAll" + way, vault.qualityByAll(from, to), NONE);
        CHECK.same("cost" + way, vault.cost(from, to), NONE);
        CHECK.same("stepAt" + way, vault.stepAt(from, to, 0), NONE);
    }

    private static void way(FormatVault vault, int from, int to, int quality, int cost,
            int... steps) {
        String way = " from " + from + " to " + to;
        CHECK.same("quality" + way, vault.quality(from, to), quality);
        CHECK.same("qualityByAll" + way, vault.qualityByAll(from, to), quality);
        CHECK.same("cost" + way, vault.cost(from, to), cost);
        for (int i = 0; i < steps.length; i++) {
            CHECK.same("step " + i + way, vault.stepAt(from, to, i), steps[i]);
        }
        CHECK.same("none behind the last" + way, vault.stepAt(from, to, steps.length), NONE);
    }

    // ---- all of them

    private static void promises6To9NoConvertersYet() {
        for (int from = 0; from < 10; from++) {
            FormatVault vault = new FormatVault();
            for (int to = 0; to < 10; to++) {
                if (from == to) {
                    way(vault, from, to, 1000, 0);
                } else {
                    noWay(vault, from, to);
                }
            }
        }
    }

    private static void promises6To9AllConvertersWithdrawn() {
        FormatVault vault = new FormatVault();
        for (int i = 0; i < 30; i++) {
            vault.converter(i % 3, i % 3 + 1, 0, 0);
        }
        for (int i = 0; i < 30; i++) {
            vault.withdraw(i);
        }
        noWay(vault, 0, 1);
        noWay(vault, 0, 3);
        noWay(vault, 2, 3);
        way(vault, 0, 0, 1000, 0);
        way(vault, 3, 3, 1000, 0);
    }

    private static void promises6To9FirstAndLastFormat() {
        FormatVault vault = new FormatVault();
        vault.converter(0, 9, 7, 8);
        vault.converter(9, 0, 6, 5);
        way(vault, 0, 9, 993, 8, 0);
        way(vault, 9, 0, 994, 5, 1);
        for (int wrong : Archives.outside(0, 9)) {
            CHECK.noSuch("quality from " + wrong, () -> vault.quality(wrong, 0));
            CHECK.noSuch("quality to " + wrong, () -> vault.quality(9, wrong));
            CHECK.noSuch("quality to itself " + wrong, () -> vault.quality(wrong, wrong));
            CHECK.noSuch("qualityByAll from " + wrong, () -> vault.qualityByAll(wrong, 0));
            CHECK.noSuch("qualityByAll to " + wrong, () -> vault.qualityByAll(9, wrong));
            CHECK.noSuch("qualityByAll to itself", () -> vault.qualityByAll(wrong, wrong));
            CHECK.noSuch("cost from " + wrong, () -> vault.cost(wrong, 0));
            CHECK.noSuch("cost to " + wrong, () -> vault.cost(9, wrong));
            CHECK.noSuch("cost to itself " + wrong, () -> vault.cost(wrong, wrong));
            CHECK.noSuch("stepAt from " + wrong, () -> vault.stepAt(wrong, 0, 0));
            CHECK.noSuch("stepAt to " + wrong, () -> vault.stepAt(9, wrong, 0));
            CHECK.noSuch("stepAt to itself " + wrong, () -> vault.stepAt(wrong, wrong, 0));
        }
    }

    private static void promises6To9ToItself() {
        FormatVault vault = new FormatVault();
        for (int i = 0; i < 10; i++) {
            vault.converter(i, (i + 1) % 10, 0, 0);
            vault.converter((i + 1) % 10, i, 0, 0);
        }
        for (int format = 0; format < 10; format++) {
            way(vault, format, format, 1000, 0);
            CHECK.same("no place of it", vault.stepAt(format, format, MAX), NONE);
        }
    }

    private static void promises6To9LongestWay() {
        FormatVault vault = Archives.row(0, 100);
        way(vault, 0, 9, 1000, 900, 0, 1, 2, 3, 4, 5, 6, 7, 8);
        way(vault, 0, 8, 1000, 800, 0, 1, 2, 3, 4, 5, 6, 7);
        way(vault, 8, 9, 1000, 100, 8);
        noWay(vault, 9, 0);
        FormatVault back = new FormatVault();
        for (int i = 0; i < 9; i++) {
            back.converter(9 - i, 8 - i, 100, 1);
        }
        way(back, 9, 0, 386, 9, 0, 1, 2, 3, 4, 5, 6, 7, 8);
        noWay(back, 0, 9);
    }

    /** The only row of converters from 0 to 3 comes to 1 twice, as 1 alone leads on from 2. */
    private static void promises6To9NoFormatTwice() {
        FormatVault vault = new FormatVault();
        vault.converter(0, 1, 100, 5);
        vault.converter(1, 2, 0, 0);
        vault.converter(2, 1, 0, 0);
        vault.converter(1, 3, 100, 5);
        vault.converter(2, 0, 0, 0);
        way(vault, 0, 3, 810, 10, 0, 3);
        way(vault, 2, 3, 900, 5, 2, 3);
        way(vault, 1, 0, 1000, 0, 1, 4);
        way(vault, 0, 2, 900, 5, 0, 1);
        noWay(vault, 3, 0);
    }

    private static void promises6To9RoundsWithoutLossAndCost() {
        FormatVault vault = new FormatVault();
        for (int i = 0; i < 5; i++) {
            vault.converter(i, (i + 1) % 5, 0, 0);
            vault.converter((i + 1) % 5, i, 0, 0);
        }
        vault.converter(2, 6, 0, 0);
        way(vault, 0, 6, 1000, 0, 0, 2, 10);
        way(vault, 3, 6, 1000, 0, 5, 10);
        way(vault, 0, 4, 1000, 0, 9);
        noWay(vault, 6, 0);
        noWay(vault, 0, 5);
    }

    private static void promises6To9OverFormatsThatEnded() {
        FormatVault vault = Archives.row(10, 1);
        for (int i = 0; i < 10; i++) {
            vault.setLast(i, 0);
        }
        vault.begin();
        way(vault, 0, 2, 980, 2, 0, 1);
        way(vault, 7, 9, 980, 2, 7, 8);
        way(vault, 5, 5, 1000, 0);
    }

    private static void promises6To9ChangeWithConverters() {
        FormatVault vault = new FormatVault();
        noWay(vault, 0, 2);
        vault.converter(0, 1, 10, 1);
        noWay(vault, 0, 2);
        vault.converter(1, 2, 10, 1);
        way(vault, 0, 2, 980, 2, 0, 1);
        vault.converter(0, 2, 20, 2);
        way(vault, 0, 2, 980, 2, 2);
        vault.converter(0, 1, 9, 100);
        way(vault, 0, 2, 981, 101, 3, 1);
        vault.withdraw(1);
        way(vault, 0, 2, 980, 2, 2);
        vault.withdraw(2);
        noWay(vault, 0, 2);
        way(vault, 0, 1, 991, 100, 3);
    }

    /** Small losses and great ones together, so that roundings make many ways alike. */
    private static void promises6To9AsTheNaiveOneAnswers() {
        int[] losses = {0, 0, 1, 2, 3, 4, 499, 500};
        long seed = 11;
        for (int network = 0; network < 2000; network++) {
            FormatVault vault = new FormatVault();
            NaiveVault naive = new NaiveVault();
            for (int i = 0; i < 14; i++) {
                seed = seed * 6364136223846793005L + 1442695040888963407L;
                int chance = (int) (seed >>> 33);
                NaiveVault.Step step = new NaiveVault.Step();
                step.number = i;
                step.from = chance % 5;
                step.to = (step.from + 1 + chance / 5 % 4) % 5;
                step.loss = losses[chance / 20 % 8];
                step.cost = chance / 160 % 3;
                naive.steps.add(step);
                vault.converter(step.from, step.to, step.loss, step.cost);
            }
            for (int pair = 0; pair < 25; pair++) {
                asNaive(vault, naive, pair / 5, pair % 5);
            }
        }
    }

    private static void asNaive(FormatVault vault, NaiveVault naive, int from, int to) {
        List<NaiveVault.Step> best = naive.bestWay(from, to);
        if (best == null) {
            noWay(vault, from, to);
            return;
        }
        int[] steps = best.stream().mapToInt(step -> step.number).toArray();
        way(vault, from, to, NaiveVault.along(best, 1000), NaiveVault.costOf(best), steps);
    }

    // ---- promise 6

    private static void promise6RoundedDownAtEachStep() {
        int[] losses = {0, 1, 2, 3, 333, 498, 499, 500};
        for (int first : losses) {
            FormatVault vault = new FormatVault();
            vault.converter(0, 1, first, 0);
            for (int i = 0; i < losses.length; i++) {
                vault.converter(1, 2 + i, losses[i], 0);
                int exact = (1000 - first) * (1000 - losses[i]);
                int due = (exact - exact % 1000) / 1000;
                CHECK.same(first + " and " + losses[i], vault.quality(0, 2 + i), due);
            }
        }
        FormatVault thrice = new FormatVault();
        thrice.converter(0, 1, 1, 0);
        thrice.converter(1, 2, 1, 0);
        thrice.converter(2, 3, 1, 0);
        CHECK.same("1000, 999, 998.001, 997.002", thrice.quality(0, 3), 997);
        FormatVault early = Archives.row(500, 0);
        int[] halves = {1000, 500, 250, 125, 62, 31, 15, 7, 3, 1};
        for (int to = 0; to < 10; to++) {
            CHECK.same("halved " + to + " times", early.quality(0, to), halves[to]);
        }
    }

    /** No way is so bad that nothing is left of 1000; a file's quality can still come to 0. */
    private static void promise6LeastQuality() {
        FormatVault vault = Archives.row(500, 0);
        CHECK.same("nine times the greatest loss", vault.quality(0, 9), 1);
        CHECK.same("the same by all", vault.qualityByAll(0, 9), 1);
        vault.file(0, 1, 0);
        CHECK.same("a file behind it", vault.move(0, 9), 1);
        vault.converter(9, 0, 1, 0);
        CHECK.same("1 behind the least loss that is one", vault.move(0, 0), 0);
        CHECK.same("nothing stays nothing", vault.move(0, 5), 0);
        vault.converter(5, 0, 0, 0);
        CHECK.same("also without loss", vault.move(0, 0), 0);
    }

    private static void promise6GreaterByOne() {
        FormatVault vault = new FormatVault();
        vault.converter(0, 1, 100, 0);
        vault.converter(0, 1, 99, 100);
        way(vault, 0, 1, 901, 100, 1);
        vault.converter(0, 2, 98, 100);
        vault.converter(2, 1, 0, 100);
        way(vault, 0, 1, 902, 200, 2, 3);
        vault.converter(0, 3, 49, 0);
        vault.converter(3, 1, 52, 0);
        way(vault, 0, 1, 902, 200, 2, 3);
        vault.converter(3, 1, 51, 0);
        way(vault, 0, 1, 902, 0, 4, 6);
        vault.converter(3, 1, 50, 100);
        way(vault, 0, 1, 903, 100, 4, 7);
    }

    /** What is better on the way may be the same in the end, and cost decides then. */
    private static void promise6RoundedAwayByTheLastStep() {
        FormatVault vault = new FormatVault();
        vault.converter(0, 1, 10, 50);
        vault.converter(0, 1, 11, 49);
        vault.converter(0, 1, 12, 48);
        vault.converter(1, 2, 500, 0);
        way(vault, 0, 1, 990, 50, 0);
        way(vault, 0, 2, 495, 50, 0, 3);
        vault.withdraw(0);
        way(vault, 0, 1, 989, 49, 1);
        way(vault, 0, 2, 494, 48, 2, 3);
        vault.converter(2, 3, 500, 0);
        way(vault, 0, 3, 247, 48, 2, 3, 4);
        vault.converter(0, 1, 10, 48);
        way(vault, 0, 2, 495, 48, 5, 3);
        way(vault, 0, 3, 247, 48, 2, 3, 4);
    }

    // ---- promise 7

    private static void promise7ThirtyConverters() {
        FormatVault vault = Archives.full();
        for (int pair = 0; pair < 100; pair++) {
            int from = pair / 10;
            int to = pair % 10;
            CHECK.same("from " + from + " to " + to, vault.qualityByAll(from, to),
                    vault.quality(from, to));
        }
        FormatVault one = new FormatVault();
        for (int i = 0; i < 30; i++) {
            one.converter(0, 1, 500 - i, i);
        }
        CHECK.same("the best of 30 ways", one.qualityByAll(0, 1), 529);
        CHECK.same("none of 30 ways leads back", one.qualityByAll(1, 0), NONE);
    }

    /** Three or four converters from each format of the row to the next make 46656 ways. */
    private static void promise7AsManyWaysAsCanBe() {
        FormatVault vault = new FormatVault();
        for (int i = 0; i < 30; i++) {
            vault.converter(i % 9, i % 9 + 1, 30 - i, i);
        }
        int due = 1000;
        int cost = 0;
        for (int i = 0; i < 9; i++) {
            int best = i < 3 ? i + 27 : i + 18;
            due = due * (1000 - (30 - best)) / 1000;
            cost += best;
            CHECK.same("step " + i, vault.stepAt(0, 9, i), best);
        }
        CHECK.same("by all", vault.qualityByAll(0, 9), due);
        CHECK.same("the same", vault.quality(0, 9), due);
        CHECK.same("its cost", vault.cost(0, 9), cost);
    }

    /** All networks of four formats whose converters are some of the twelve there can be. */
    private static void promise7EverySmallNetwork() {
        for (int set = 0; set < 4096; set++) {
            FormatVault vault = new FormatVault();
            for (int pair = 0; pair < 16; pair++) {
                int from = pair / 4;
                int to = pair % 4;
                int bit = from * 3 + (to > from ? to - 1 : to);
                if (from != to && (set & 1 << bit) != 0) {
                    vault.converter(from, to, (bit * 37 + 11) % 97, bit);
                }
            }
            for (int pair = 0; pair < 16; pair++) {
                CHECK.same("network " + set, vault.qualityByAll(pair / 4, pair % 4),
                        vault.quality(pair / 4, pair % 4));
            }
        }
    }

    // ---- promise 8

    private static void promise8LeastAndGreatestCost() {
        FormatVault dear = Archives.row(0, 100);
        FormatVault cheap = Archives.row(500, 0);
        for (int to = 0; to < 10; to++) {
            CHECK.same("the dearest to " + to, dear.cost(0, to), 100 * to);
            CHECK.same("the cheapest to " + to, cheap.cost(0, to), 0);
            CHECK.same("back from " + to, dear.cost(to, 0), to == 0 ? 0 : NONE);
        }
    }

    private static void promise8CheaperByOne() {
        FormatVault vault = new FormatVault();
        vault.converter(0, 1, 5, 10);
        vault.converter(0, 1, 5, 11);
        way(vault, 0, 1, 995, 10, 0);
        vault.converter(0, 1, 5, 9);
        way(vault, 0, 1, 995, 9, 2);
        vault.converter(0, 2, 5, 4);
        vault.converter(2, 3, 0, 0);
        vault.converter(3, 4, 0, 0);
        vault.converter(4, 1, 0, 4);
        way(vault, 0, 1, 995, 8, 3, 4, 5, 6);
        vault.converter(0, 1, 5, 0);
        way(vault, 0, 1, 995, 0, 7);
    }

    private static void promise8OfTheBestWayNotOfTheCheapest() {
        FormatVault vault = new FormatVault();
        vault.converter(0, 1, 1, 0);
        vault.converter(0, 1, 0, 100);
        way(vault, 0, 1, 1000, 100, 1);
        vault.withdraw(1);
        way(vault, 0, 1, 999, 0, 0);
    }

    // ---- promise 9

    private static void promise9FewerByOne() {
        FormatVault vault = Archives.row(0, 1);
        vault.converter(0, 2, 0, 2);
        way(vault, 0, 2, 1000, 2, 9);
        way(vault, 0, 9, 1000, 9, 9, 2, 3, 4, 5, 6, 7, 8);
        vault.converter(7, 9, 0, 2);
        way(vault, 0, 9, 1000, 9, 9, 2, 3, 4, 5, 6, 10);
        vault.converter(2, 7, 0, 6);
        way(vault, 0, 9, 1000, 9, 9, 2, 3, 4, 5, 6, 10);
        vault.converter(2, 7, 0, 5);
        way(vault, 0, 9, 1000, 9, 9, 12, 10);
    }

    private static void promise9LowestWhereTheyFirstDiffer() {
        FormatVault vault = new FormatVault();
        vault.converter(3, 4, 0, 0);
        vault.converter(0, 1, 0, 0);
        vault.converter(1, 4, 0, 0);
        vault.converter(0, 3, 0, 0);
        way(vault, 0, 4, 1000, 0, 1, 2);
        vault.converter(1, 2, 0, 0);
        vault.converter(2, 5, 0, 0);
        vault.converter(4, 5, 0, 0);
        way(vault, 0, 5, 1000, 0, 1, 2, 6);
        vault.withdraw(2);
        way(vault, 0, 5, 1000, 0, 1, 4, 5);
        vault.converter(1, 4, 0, 0);
        way(vault, 0, 5, 1000, 0, 1, 4, 5);
        way(vault, 0, 4, 1000, 0, 1, 7);
        vault.withdraw(1);
        way(vault, 0, 5, 1000, 0, 3, 0, 6);
    }

    private static void promise9FewestAheadOfLowest() {
        FormatVault vault = new FormatVault();
        vault.converter(0, 1, 3, 1);
        vault.converter(1, 2, 0, 1);
        for (int i = 0; i < 5; i++) {
            vault.converter(0, 2, 3, 3);
        }
        way(vault, 0, 2, 997, 2, 0, 1);
        vault.converter(0, 2, 3, 2);
        way(vault, 0, 2, 997, 2, 7);
        vault.converter(0, 2, 3, 2);
        way(vault, 0, 2, 997, 2, 7);
        vault.withdraw(7);
        way(vault, 0, 2, 997, 2, 8);
    }

    private static void promise9Places() {
        FormatVault vault = Archives.row(0, 0);
        for (int place = 0; place < 9; place++) {
            CHECK.same("place " + place, vault.stepAt(0, 9, place), place);
        }
        for (int place : new int[] {9, 10, 29, 30, 1000, MAX - 1, MAX}) {
            CHECK.same("behind the longest way", vault.stepAt(0, 9, place), NONE);
            CHECK.same("behind a way of one", vault.stepAt(3, 4, place), NONE);
            CHECK.same("behind a way of none", vault.stepAt(3, 3, place), NONE);
            CHECK.same("where there is no way", vault.stepAt(9, 0, place), NONE);
        }
        CHECK.same("just behind a way of one", vault.stepAt(3, 4, 1), NONE);
        for (int place : new int[] {-1, -2, MIN, MIN + 1}) {
            CHECK.noSuch("place " + place, () -> vault.stepAt(0, 9, place));
            CHECK.noSuch("of a way of none: " + place, () -> vault.stepAt(3, 3, place));
            CHECK.noSuch("of no way: " + place, () -> vault.stepAt(9, 0, place));
            CHECK.noSuch("of no format: " + place, () -> vault.stepAt(10, 0, place));
        }
    }
}
