/**
 * An archive of files by formats: formats that can be read up to some year, converters with loss
 * and cost, ways over converters with the least loss, laws that tell how long and how well files
 * are kept and how often they are read, budgets by years, files that are moved ahead of the end of
 * their formats, and what may be promised when a converter is withdrawn.
 */
public final class FormatVault {
    /** There is none; without end. */
    public static final int NONE = -1;
    /** What files are. */
    public static final int KEPT = 0, RELEASED = 1, LOST = 2;

    private static final int FORMATS = 10;
    private static final int LAWS = 5;
    private static final int MOST_CONVERTERS = 30;
    private static final int MOST_FILES = 40;
    /** A way comes to no format twice. */
    private static final int LONGEST_WAY = FORMATS - 1;

    private static final int FULL_QUALITY = 1000;
    private static final int THOUSANDTHS = 1000;
    private static final int GREATEST_LOSS = 500;
    private static final int GREATEST_COST = 100;
    private static final int GREATEST_SIZE = 100;
    private static final int MOST_YEARS = 100;
    private static final int MOST_YEARS_UNREAD = 50;
    private static final int FIRST_BUDGET = 1000;
    private static final int GREATEST_BUDGET = 1000000;
    private static final int LATEST_LAST = 1000;
    private static final int LATEST_YEAR = 900;

    private final int[] lasts = new int[FORMATS];
    private final Law[] laws = new Law[LAWS];
    private final StoredFile[] files = new StoredFile[MOST_FILES];
    private final Network network = new Network();
    private int fileCount;
    private int now;
    private int budget = FIRST_BUDGET;
    private int unspent = FIRST_BUDGET;

    /** Makes an archive without converters and files, in the year 0. */
    public FormatVault() {
        for (int i = 0; i < FORMATS; i++) {
            lasts[i] = NONE;
        }
        for (int i = 0; i < LAWS; i++) {
            laws[i] = new Law();
        }
    }

    // ---- formats, converters, laws

    /** Sets the last year in which a format can be read; returns the one before. */
    public int setLast(int format, int last)
            throws IndexOutOfBoundsException, IllegalArgumentException, IllegalStateException {
        requireFormat(format);
        if (last != NONE) {
            requireRange(last, now, LATEST_LAST);
        }
        requireReadable(format);
        int before = lasts[format];
        lasts[format] = last;
        return before;
    }

    /** Adds a converter; returns its number. */
    public int converter(int from, int to, int loss, int cost)
            throws IndexOutOfBoundsException, IllegalArgumentException, IllegalStateException {
        requireFormat(from);
        requireFormat(to);
        requireRange(loss, 0, GREATEST_LOSS);
        requireRange(cost, 0, GREATEST_COST);
        if (from == to) {
            throw new IllegalArgumentException("a converter leads to another format");
        }
        if (network.count >= MOST_CONVERTERS) {
            throw new IllegalStateException("there are no more converters than 30");
        }
        return network.add(new Converter(network.count, from, to, loss, cost));
    }

    /** Withdraws a converter; returns how many files lose their havens by that. */
    public int withdraw(int converter) throws IndexOutOfBoundsException, IllegalStateException {
        if (converter < 0 || converter >= network.count) {
            throw new IndexOutOfBoundsException("there is no such converter");
        }
        if (network.converters[converter].isWithdrawn) {
            throw new IllegalStateException("the converter is withdrawn");
        }
        long before = filesWithHaven();
        network.withdrawOne(converter);
        return Long.bitCount(before & ~filesWithHaven());
    }

    /** Sets a law: the years for files that are taken in from now on, the rest for all. */
    public void law(int law, int years, int least, int reads)
            throws IndexOutOfBoundsException, IllegalArgumentException {
        Law changed = lawAt(law);
        requireRange(years, 1, MOST_YEARS);
        requireRange(least, 0, FULL_QUALITY);
        requireRange(reads, 1, MOST_YEARS_UNREAD);
        changed.years = years;
        changed.least = least;
        changed.reads = reads;
    }

    // ---- ways

    /** Returns the quality of the best way from a format to another one. */
    public int quality(int from, int to) throws IndexOutOfBoundsException {
        requireFormat(from);
        requireFormat(to);
        return network.waysFrom(from).quality[to];
    }

    /** Returns the same, found by going through all ways. */
    public int qualityByAll(int from, int to) throws IndexOutOfBoundsException {
        requireFormat(from);
        requireFormat(to);
        return network.greatestOfAllWays(from, to);
    }

    /** Returns the cost of the best way from a format to another one. */
    public int cost(int from, int to) throws IndexOutOfBoundsException {
        requireFormat(from);
        requireFormat(to);
        return network.waysFrom(from).cost[to];
    }

    /** Returns a converter of the best way from a format to another one. */
    public int stepAt(int from, int to, int place) throws IndexOutOfBoundsException {
        requireFormat(from);
        requireFormat(to);
        if (place < 0) {
            throw new IndexOutOfBoundsException("there is no such place");
        }
        BestWays ways = network.waysFrom(from);
        return place < ways.length[to] ? ways.steps[to][place] : NONE;
    }

    // ---- files

    /** Takes a file in; returns its number. */
    public int file(int format, int size, int law)
            throws IndexOutOfBoundsException, IllegalArgumentException, IllegalStateException {
        requireFormat(format);
        Law itsLaw = lawAt(law);
        requireRange(size, 1, GREATEST_SIZE);
        if (fileCount >= MOST_FILES) {
            throw new IllegalStateException("there are no more files than 40");
        }
        requireReadable(format);
        files[fileCount] = new StoredFile(format, size, itsLaw, now);
        fileCount++;
        return fileCount - 1;
    }

    /** Holds a file, or no more; returns whether that changes something. */
    public boolean hold(int file, boolean isHeld)
            throws IndexOutOfBoundsException, IllegalStateException {
        StoredFile stored = fileAt(file);
        requireKept(stored);
        boolean changes = stored.isHeld != isHeld;
        stored.isHeld = isHeld;
        return changes;
    }

    /** Reads a file; returns in how many years it was not read. */
    public int read(int file) throws IndexOutOfBoundsException, IllegalStateException {
        StoredFile stored = fileAt(file);
        requireKept(stored);
        requireReadable(stored.format);
        if (stored.quality < stored.law.least) {
            throw new IllegalStateException("the quality is below the least one of the law");
        }
        int unread = now - stored.lastRead;
        stored.lastRead = now;
        return unread;
    }

    /** Moves a file to a format; returns its quality then. */
    public int move(int file, int format)
            throws IndexOutOfBoundsException, IllegalArgumentException, IllegalStateException {
        StoredFile stored = fileAt(file);
        requireFormat(format);
        if (stored.format == format) {
            throw new IllegalArgumentException("the file is in that format");
        }
        requireKept(stored);
        requireReadable(format);
        if (network.waysFrom(stored.format).quality[format] == NONE) {
            throw new IllegalStateException("there is no way to that format");
        }
        if (costOfMove(stored, format) > unspent) {
            throw new IllegalStateException("what is left of the budget is not enough");
        }
        take(stored, format);
        return stored.quality;
    }

    /** Moves all ahead; returns how many files are moved. */
    public int moveAhead() {
        long waiting = filesWithHaven() & ~filesThatAreSafe();
        int moved = 0;
        for (int turn = 0; turn < fileCount && waiting != 0; turn++) {
            int next = firstToEnd(waiting);
            waiting &= ~(1L << next);
            StoredFile stored = files[next];
            int haven = findHaven(stored);
            if (haven != NONE && costOfMove(stored, haven) <= unspent) {
                take(stored, haven);
                moved++;
            }
        }
        return moved;
    }

    /** Returns the haven of a file. */
    public int haven(int file) throws IndexOutOfBoundsException {
        return findHaven(fileAt(file));
    }

    /** Returns whether a file is safe in its format. */
    public boolean isSafe(int file) throws IndexOutOfBoundsException {
        StoredFile stored = fileAt(file);
        return stored.state == KEPT && isSafeIn(stored, stored.format);
    }

    /** Returns what a file is. */
    public int stateOf(int file) throws IndexOutOfBoundsException {
        return fileAt(file).state;
    }

    /** Returns the format of a file. */
    public int formatOf(int file) throws IndexOutOfBoundsException {
        return fileAt(file).format;
    }

    /** Returns the quality of a file. */
    public int qualityOf(int file) throws IndexOutOfBoundsException {
        return fileAt(file).quality;
    }

    /** Returns the end of a file. */
    public int endOf(int file) throws IndexOutOfBoundsException {
        return fileAt(file).end;
    }

    // ---- years, budgets, promises

    /** Tells the budget for each year from the next one on; returns the budget before. */
    public int setBudget(int budget) throws IllegalArgumentException {
        requireRange(budget, 0, GREATEST_BUDGET);
        int before = this.budget;
        this.budget = budget;
        return before;
    }

    /** Returns what is left of the budget of the year of now. */
    public int left() {
        return unspent;
    }

    /** Lets a year begin; returns how many files are LOST by that. */
    public int begin() throws IllegalStateException {
        if (now >= LATEST_YEAR) {
            throw new IllegalStateException("the year of now is the last one");
        }
        now++;
        unspent = budget;
        int lost = 0;
        for (int i = 0; i < fileCount; i++) {
            StoredFile stored = files[i];
            if (stored.state == KEPT) {
                stored.state = stateInNewYear(stored);
                lost += stored.state == LOST ? 1 : 0;
            }
        }
        return lost;
    }

    /** Returns the year of now. */
    public int year() {
        return now;
    }

    /** Returns how many files are overdue. */
    public int overdue() {
        int count = 0;
        for (int i = 0; i < fileCount; i++) {
            StoredFile stored = files[i];
            if (stored.state == KEPT && now > stored.lastRead + stored.law.reads) {
                count++;
            }
        }
        return count;
    }

    /** Returns for how many years a file could be promised to be kept, if it was taken in now. */
    public int promise(int format, int law) throws IndexOutOfBoundsException {
        requireFormat(format);
        Law itsLaw = lawAt(law);
        if (!isReadable(format)) {
            return 0;
        }
        BestWays ways = network.waysFrom(format);
        int years = 0;
        for (int to = 0; to < FORMATS; to++) {
            if (ways.quality[to] != NONE && ways.quality[to] >= itsLaw.least) {
                years = Math.max(years, yearsToPromiseIn(to));
            }
        }
        return years;
    }

    // ---- what the calls refuse

    private static void requireFormat(int format) {
        if (format < 0 || format >= FORMATS) {
            throw new IndexOutOfBoundsException("there is no such format");
        }
    }

    private static void requireRange(int value, int lowest, int greatest) {
        if (value < lowest || value > greatest) {
            throw new IllegalArgumentException("an argument is out of its range");
        }
    }

    private static void requireKept(StoredFile stored) {
        if (stored.state != KEPT) {
            throw new IllegalStateException("the file is not kept");
        }
    }

    private void requireReadable(int format) {
        if (!isReadable(format)) {
            throw new IllegalStateException("the format cannot be read any more");
        }
    }

    private Law lawAt(int law) {
        if (law < 0 || law >= LAWS) {
            throw new IndexOutOfBoundsException("there is no such law");
        }
        return laws[law];
    }

    private StoredFile fileAt(int file) {
        if (file < 0 || file >= fileCount) {
            throw new IndexOutOfBoundsException("there is no such file");
        }
        return files[file];
    }

    // ---- formats by years

    private boolean isReadable(int format) {
        return lasts[format] == NONE || lasts[format] >= now;
    }

    private int yearsToPromiseIn(int format) {
        return lasts[format] == NONE ? MOST_YEARS : Math.min(MOST_YEARS, lasts[format] - now);
    }

    private int stateInNewYear(StoredFile stored) {
        if (now > stored.end && !stored.isHeld) {
            return RELEASED;
        }
        return isReadable(stored.format) ? KEPT : LOST;
    }

    // ---- havens and moves

    /** An end that is over counts like another one: it is not asked whether now is later. */
    private boolean isSafeIn(StoredFile stored, int format) {
        int last = lasts[format];
        return last == NONE || (!stored.isHeld && last >= stored.end);
    }

    private int findHaven(StoredFile stored) {
        if (stored.state != KEPT) {
            return NONE;
        }
        BestWays ways = network.waysFrom(stored.format);
        int haven = NONE;
        int havenQuality = NONE;
        int havenCost = NONE;
        for (int to = 0; to < FORMATS; to++) {
            if (ways.quality[to] == NONE || !isSafeIn(stored, to)) {
                continue;
            }
            int quality = network.qualityBehind(ways, to, stored.quality);
            int cost = ways.cost[to];
            boolean isBetter = quality > havenQuality
                    || (quality == havenQuality && cost < havenCost);
            if (quality >= stored.law.least && isBetter) {
                haven = to;
                havenQuality = quality;
                havenCost = cost;
            }
        }
        return haven;
    }

    /** Returns a set of files: the bit of each file's number tells whether it has a haven. */
    private long filesWithHaven() {
        long found = 0;
        for (int i = 0; i < fileCount; i++) {
            if (findHaven(files[i]) != NONE) {
                found |= 1L << i;
            }
        }
        return found;
    }

    private long filesThatAreSafe() {
        long found = 0;
        for (int i = 0; i < fileCount; i++) {
            if (isSafeIn(files[i], files[i].format)) {
                found |= 1L << i;
            }
        }
        return found;
    }

    /** Files that are not safe are in formats with an end, so each of them has a last year. */
    private int firstToEnd(long waiting) {
        int first = 0;
        int firstLast = Integer.MAX_VALUE;
        for (int i = 0; i < fileCount; i++) {
            int last = lasts[files[i].format];
            if ((waiting & 1L << i) != 0 && last < firstLast) {
                first = i;
                firstLast = last;
            }
        }
        return first;
    }

    private int costOfMove(StoredFile stored, int format) {
        return stored.size * network.waysFrom(stored.format).cost[format];
    }

    private void take(StoredFile stored, int format) {
        BestWays ways = network.waysFrom(stored.format);
        unspent -= costOfMove(stored, format);
        stored.quality = network.qualityBehind(ways, format, stored.quality);
        stored.format = format;
    }

    /** For how long, how well and how often read its files are kept. */
    static final class Law {
        int years = 10;
        int least = 0;
        int reads = 5;

        Law() {
        }
    }

    /** A file of the archive. */
    static final class StoredFile {
        final int size;
        final Law law;
        final int end;
        int format;
        int quality = FULL_QUALITY;
        int lastRead;
        int state = KEPT;
        boolean isHeld;

        StoredFile(int format, int size, Law law, int year) {
            this.format = format;
            this.size = size;
            this.law = law;
            this.end = year + law.years;
            this.lastRead = year;
        }
    }

    /** A converter, and the next higher one from the same format, or null. */
    static final class Converter {
        final int number;
        final int from;
        final int to;
        final int loss;
        final int cost;
        boolean isWithdrawn;
        Converter next;

        Converter(int number, int from, int to, int loss, int cost) {
            this.number = number;
            this.from = from;
            this.to = to;
            this.loss = loss;
            this.cost = cost;
        }

        boolean goesOn(int visited) {
            return !isWithdrawn && (visited & 1 << to) == 0;
        }

        int qualityAfter(int quality) {
            return quality * (THOUSANDTHS - loss) / THOUSANDTHS;
        }
    }

    /** The best ways from one format to each one. */
    static final class BestWays {
        final int[] quality = new int[FORMATS];
        final int[] cost = new int[FORMATS];
        final int[] length = new int[FORMATS];
        final int[][] steps = new int[FORMATS][LONGEST_WAY];
        boolean isCurrent;

        BestWays() {
        }

        void restart(int from) {
            for (int to = 0; to < FORMATS; to++) {
                quality[to] = NONE;
                cost[to] = NONE;
                length[to] = 0;
            }
            quality[from] = FULL_QUALITY;
            cost[from] = 0;
        }

        /**
         * Takes a way in if it is the best one so far, and returns whether to go on behind it. A
         * way that is not the best one can still be, behind further converters, where roundings
         * make the qualities the same; but none that is neither cheaper nor shorter.
         */
        boolean offer(int to, int newQuality, int newCost, int[] trail, int newLength) {
            boolean isFirst = quality[to] == NONE;
            boolean isCheaper = newCost < cost[to];
            boolean isShorter = newLength < length[to];
            boolean isBetter = newQuality > quality[to]
                    || (newQuality == quality[to]
                            && (isCheaper || (newCost == cost[to] && isShorter)));
            if (isFirst || isBetter) {
                quality[to] = newQuality;
                cost[to] = newCost;
                length[to] = newLength;
                for (int i = 0; i < newLength; i++) {
                    steps[to][i] = trail[i];
                }
            }
            return isFirst || isBetter || isCheaper || isShorter;
        }
    }

    /** The converters, and the ways over those that are not withdrawn. */
    static final class Network {
        final Converter[] converters = new Converter[MOST_CONVERTERS];
        int count;
        private final Converter[] lowestFrom = new Converter[FORMATS];
        private final Converter[] highestFrom = new Converter[FORMATS];
        private final BestWays[] best = new BestWays[FORMATS];
        private final int[] trail = new int[LONGEST_WAY];

        Network() {
            for (int i = 0; i < FORMATS; i++) {
                best[i] = new BestWays();
            }
        }

        int add(Converter added) {
            Converter highest = highestFrom[added.from];
            if (highest == null) {
                lowestFrom[added.from] = added;
            } else {
                highest.next = added;
            }
            highestFrom[added.from] = added;
            converters[count] = added;
            count++;
            forgetWays();
            return added.number;
        }

        void withdrawOne(int number) {
            converters[number].isWithdrawn = true;
            forgetWays();
        }

        private void forgetWays() {
            for (int i = 0; i < FORMATS; i++) {
                best[i].isCurrent = false;
            }
        }

        /** The ways are searched when they are asked for, and kept until the converters change. */
        BestWays waysFrom(int from) {
            BestWays ways = best[from];
            if (!ways.isCurrent) {
                ways.restart(from);
                search(this, ways, from, 1 << from, 0, FULL_QUALITY, 0);
                ways.isCurrent = true;
            }
            return ways;
        }

        int greatestOfAllWays(int from, int to) {
            return greatestQuality(this, from, to, 1 << from, 0, FULL_QUALITY);
        }

        /** What becomes of a quality along the best way to a format to which there is one. */
        int qualityBehind(BestWays ways, int to, int quality) {
            int behind = quality;
            for (int i = 0; i < ways.length[to]; i++) {
                behind = converters[ways.steps[to][i]].qualityAfter(behind);
            }
            return behind;
        }

        /**
         * Offers all ways that go on from a format. The lower converters come first, so of ways
         * that are the same in all else the lowest one is offered first, and stays.
         */
        private static void search(Network network, BestWays ways, int format, int visited,
                int length, int quality, int cost) {
            if (length >= LONGEST_WAY) {
                return;
            }
            Converter step = network.lowestFrom[format];
            while (step != null) {
                if (step.goesOn(visited)) {
                    int newQuality = step.qualityAfter(quality);
                    int newCost = cost + step.cost;
                    network.trail[length] = step.number;
                    if (ways.offer(step.to, newQuality, newCost, network.trail, length + 1)) {
                        search(network, ways, step.to, visited | 1 << step.to, length + 1,
                                newQuality, newCost);
                    }
                }
                step = step.next;
            }
        }

        /** Goes through all ways on from a format, and leaves none out. */
        private static int greatestQuality(Network network, int format, int to, int visited,
                int length, int quality) {
            if (format == to) {
                return quality;
            }
            if (length >= LONGEST_WAY) {
                return NONE;
            }
            int greatest = NONE;
            Converter step = network.lowestFrom[format];
            while (step != null) {
                if (step.goesOn(visited)) {
                    greatest = Math.max(greatest, greatestQuality(network, step.to, to,
                            visited | 1 << step.to, length + 1, step.qualityAfter(quality)));
                }
                step = step.next;
            }
            return greatest;
        }
    }
}
