import java.util.ArrayList;
import java.util.Comparator;
import java.util.List;

/**
 * The document once more, as slow and as plain as can be: each question goes through all ways, and
 * nothing is kept. It answers right arguments alone; ModelTest tells which ones are wrong.
 */
final class NaiveVault {
    static final class Step {
        int number;
        int from;
        int to;
        int loss;
        int cost;
        boolean isWithdrawn;
    }

    static final class Item {
        int format;
        int size;
        int law;
        int quality = 1000;
        int end;
        int lastRead;
        int state;
        boolean isHeld;
    }

    final int[] last = new int[10];
    final int[][] laws = new int[5][];
    final List<Step> steps = new ArrayList<>();
    final List<Item> items = new ArrayList<>();
    int year;
    int budget = 1000;
    int left = 1000;

    NaiveVault() {
        java.util.Arrays.fill(last, -1);
        for (int i = 0; i < 5; i++) {
            laws[i] = new int[] {10, 0, 5};
        }
    }

    boolean canBeRead(int format) {
        return canBeReadIn(format, year);
    }

    private boolean canBeReadIn(int format, int when) {
        return last[format] == -1 || when <= last[format];
    }

    // ---- ways

    private void addWays(List<Step> way, int at, int to, List<List<Step>> ways) {
        if (at == to) {
            ways.add(new ArrayList<>(way));
            return;
        }
        for (Step step : steps) {
            boolean wasThere = step.to == way.stream().mapToInt(s -> s.from).findFirst().orElse(at)
                    || way.stream().anyMatch(s -> s.to == step.to);
            if (step.from == at && !step.isWithdrawn && !wasThere) {
                way.add(step);
                addWays(way, step.to, to, ways);
                way.remove(way.size() - 1);
            }
        }
    }

    static int along(List<Step> way, int quality) {
        int behind = quality;
        for (Step step : way) {
            behind = behind * (1000 - step.loss) / 1000;
        }
        return behind;
    }

    static int costOf(List<Step> way) {
        return way.stream().mapToInt(step -> step.cost).sum();
    }

    private static int byNumbers(List<Step> a, List<Step> b) {
        for (int i = 0; i < Math.min(a.size(), b.size()); i++) {
            if (a.get(i).number != b.get(i).number) {
                return Integer.compare(a.get(i).number, b.get(i).number);
            }
        }
        return 0;
    }

    /** Returns null if there is no way. */
    List<Step> bestWay(int from, int to) {
        List<List<Step>> ways = new ArrayList<>();
        addWays(new ArrayList<>(), from, to, ways);
        Comparator<List<Step>> order = Comparator.comparingInt(way -> -along(way, 1000));
        order = order.thenComparingInt(NaiveVault::costOf).thenComparingInt(List::size);
        return ways.stream().min(order.thenComparing(NaiveVault::byNumbers)).orElse(null);
    }

    // ---- files

    boolean isSafeIn(Item item, int format) {
        if (item.isHeld) {
            return last[format] == -1;
        }
        return canBeReadIn(format, item.end);
    }

    int havenOf(Item item) {
        if (item.state != 0) {
            return -1;
        }
        List<int[]> havens = new ArrayList<>();
        for (int format = 0; format < 10; format++) {
            List<Step> way = bestWay(item.format, format);
            if (way != null && isSafeIn(item, format)) {
                havens.add(new int[] {-along(way, item.quality), costOf(way), format});
            }
        }
        havens.sort(Comparator.<int[]>comparingInt(h -> h[0]).thenComparingInt(h -> h[1])
                .thenComparingInt(h -> h[2]));
        boolean isGood = !havens.isEmpty() && -havens.get(0)[0] >= laws[item.law][1];
        return isGood ? havens.get(0)[2] : -1;
    }

    int withdraw(int number) {
        List<Item> had = new ArrayList<>();
        for (Item item : items) {
            if (havenOf(item) != -1) {
                had.add(item);
            }
        }
        steps.get(number).isWithdrawn = true;
        had.removeIf(item -> havenOf(item) != -1);
        return had.size();
    }

    boolean canPay(Item item, int format) {
        return item.size * costOf(bestWay(item.format, format)) <= left;
    }

    int moveOne(Item item, int format) {
        List<Step> way = bestWay(item.format, format);
        left -= item.size * costOf(way);
        item.quality = along(way, item.quality);
        item.format = format;
        return item.quality;
    }

    int moveAhead() {
        List<Item> row = new ArrayList<>();
        for (Item item : items) {
            if (item.state == 0 && !isSafeIn(item, item.format) && havenOf(item) != -1) {
                row.add(item);
            }
        }
        row.sort(Comparator.comparingInt(item -> last[item.format]));
        int moved = 0;
        for (Item item : row) {
            int haven = havenOf(item);
            if (canPay(item, haven)) {
                moveOne(item, haven);
                moved++;
            }
        }
        return moved;
    }

    // ---- years

    int begin() {
        year++;
        left = budget;
        int lost = 0;
        for (Item item : items) {
            if (item.state != 0) {
                continue;
            }
            if (year > item.end && !item.isHeld) {
                item.state = 1;
            } else if (!canBeRead(item.format)) {
                item.state = 2;
                lost++;
            }
        }
        return lost;
    }

    int overdue() {
        return (int) items.stream()
                .filter(i -> i.state == 0 && year > i.lastRead + laws[i.law][2]).count();
    }

    /** Tries each number of years with a file that is taken in for so many. */
    int promise(int format, int law) {
        if (!canBeRead(format)) {
            return 0;
        }
        for (int years = 100; years > 0; years--) {
            Item item = new Item();
            item.format = format;
            item.law = law;
            item.end = year + years;
            if (havenOf(item) != -1) {
                return years;
            }
        }
        return 0;
    }
}
