import java.util.Arrays;

/**
 * A wall that is filled from end to end: items in a row, fillers between them, free spans that
 * stay free; the plan of the greatest worth, variants of it, and rows that are checked.
 */
public final class RoomFills {
    public static final int NONE = -1;

    private static final int MOST_STEPS = 40;
    private static final int MOST_PIPES = 8;
    private static final int MOST_ITEMS = 6;
    private static final int MOST_WIDTH = 20;
    private static final int MOST_UNLIKE = 6;
    private static final int MOST_TOLD = 16;
    private static final int MOST_PLACE = 100;
    private static final long MOST_MONEY = 100000L;
    private static final int TAKEN_OFF = NONE - 100;

    // What stands just before a step: an item's number, or one of these two.
    private static final int FILLER_BEFORE = MOST_ITEMS;
    private static final int NOTHING_BEFORE = MOST_ITEMS + 1;
    private static final int BEFORES = MOST_ITEMS + 2;

    private static final int SETS = 1 << MOST_ITEMS;
    private static final long NO_WAY = -1L;

    private final Wall wall;
    private final Items items;
    private final Fillers fillers;
    private final Planner planner;
    private final Row placed;
    private final int[] toldSets;
    // 0 also says that there is no plan, or none since something was told.
    private int toldCount;

    public RoomFills(int steps) {
        wall = new Wall(Math.max(1, Math.min(MOST_STEPS, steps)));
        items = new Items();
        fillers = new Fillers();
        planner = new Planner(wall, items, fillers);
        placed = new Row(wall, items, fillers);
        toldSets = new int[MOST_TOLD];
        toldCount = 0;
    }

    public boolean door(int from, int to) throws IllegalArgumentException {
        if (!wall.isStep(from) || to <= from || to > wall.steps) {
            throw new IllegalArgumentException("no such span");
        }
        return news(wall.makeFree(from, to));
    }

    public boolean pipe(int at) throws IllegalArgumentException {
        if (!wall.isStep(at)) {
            throw new IllegalArgumentException("no such step");
        }
        return news(wall.addPipe(at));
    }

    public int item(int width, long worth, long cents) throws IllegalStateException, IllegalArgumentException {
        if (items.count >= MOST_ITEMS) {
            throw new IllegalStateException("no room for another item");
        }
        if (width < 1 || width > MOST_WIDTH || !isMoney(worth) || !isMoney(cents)) {
            throw new IllegalArgumentException("width, worth or cents out of range");
        }
        news(true);
        return items.add(width, worth, cents);
    }

    public boolean need(int item, int most) throws IndexOutOfBoundsException, IllegalArgumentException {
        demandItem(item);
        if (most < NONE || most > MOST_STEPS) {
            throw new IllegalArgumentException("most out of range");
        }
        return news(items.setNeed(item, most));
    }

    public boolean near(int a, int b, long worth) throws IndexOutOfBoundsException, IllegalArgumentException {
        demandPair(a, b);
        if (!isMoney(worth)) {
            throw new IllegalArgumentException("worth out of range");
        }
        return news(items.setNear(a, b, worth));
    }

    public boolean bar(int a, int b) throws IndexOutOfBoundsException, IllegalArgumentException {
        demandPair(a, b);
        return news(items.setBarred(a, b));
    }

    public boolean must(int item, boolean on) throws IndexOutOfBoundsException {
        demandItem(item);
        return news(items.setMust(item, on));
    }

    public boolean filler(int least, int most) throws IllegalArgumentException {
        if (least < 1 || least > MOST_STEPS || most < least || most > MOST_STEPS) {
            throw new IllegalArgumentException("least or most out of range");
        }
        return news(fillers.setRange(least, most));
    }

    public int run() {
        toldCount = 0;
        planner.table.fill();
        return tellPlan(0);
    }

    public int variant(int unlike) throws IllegalStateException, IllegalArgumentException {
        demandPlan();
        if (toldCount >= MOST_TOLD) {
            throw new IllegalStateException("no room for another told plan");
        }
        if (unlike < 0 || unlike > MOST_UNLIKE) {
            throw new IllegalArgumentException("unlike out of range");
        }
        return tellPlan(unlike);
    }

    public int at(int item) throws IllegalStateException, IndexOutOfBoundsException {
        demandPlan();
        demandItem(item);
        return planner.latest.beginOf[item];
    }

    public int plan(int k, int what) throws IllegalStateException, IndexOutOfBoundsException, IllegalArgumentException {
        demandPlan();
        Plan latest = planner.latest;
        if (k < 0 || k >= latest.count) {
            throw new IndexOutOfBoundsException("no such piece");
        }
        if (what < 0 || what > 2) {
            throw new IllegalArgumentException("what is not 0, 1 or 2");
        }
        if (what == 0) {
            return latest.pieceItem[k];
        }
        return what == 1 ? latest.pieceBegin[k] : latest.pieceSteps[k];
    }

    public long worth(int what) throws IllegalStateException, IndexOutOfBoundsException {
        demandPlan();
        if (what < 0 || what > 1) {
            throw new IndexOutOfBoundsException("what is not 0 or 1");
        }
        return what == 0 ? planner.latest.wholeWorth : planner.latest.wholeCents;
    }

    public int top(int k, int what) throws IllegalStateException, IndexOutOfBoundsException, IllegalArgumentException {
        demandPlan();
        Plan latest = planner.latest;
        if (k < NONE || k >= latest.topCount) {
            throw new IndexOutOfBoundsException("no such top");
        }
        if (what < 0 || what > 1) {
            throw new IllegalArgumentException("what is not 0 or 1");
        }
        if (k == NONE) {
            return latest.topCount;
        }
        return what == 0 ? latest.topBegin[k] : latest.topSteps[k];
    }

    public boolean place(int item, int at) throws IndexOutOfBoundsException, IllegalArgumentException {
        demandItem(item);
        if (at < TAKEN_OFF || at > MOST_PLACE) {
            throw new IllegalArgumentException("at out of range");
        }
        return placed.put(item, at);
    }

    public int check() {
        return placed.firstBrokenRule();
    }

    public long row() {
        return placed.wholeWorth();
    }

    /** What is told anew makes the plans stale; what was so before leaves them. */
    private boolean news(boolean isNew) {
        if (isNew) {
            toldCount = 0;
        }
        return isNew;
    }

    private int tellPlan(int unlike) {
        if (!planner.chooseSets(toldSets, toldCount, unlike)) {
            return NONE;
        }
        planner.layOut();
        // The callers leave room; the test keeps the index safe by itself.
        if (toldCount < MOST_TOLD) {
            toldSets[toldCount] = planner.latest.itemSet;
            toldCount++;
        }
        return planner.latest.count;
    }

    private void demandPlan() {
        if (toldCount == 0) {
            throw new IllegalStateException("no plan");
        }
    }

    private void demandItem(int item) {
        if (item < 0 || item >= items.count) {
            throw new IndexOutOfBoundsException("no such item");
        }
    }

    private void demandPair(int a, int b) {
        demandItem(a);
        demandItem(b);
        if (a == b) {
            throw new IllegalArgumentException("both are one item");
        }
    }

    private static boolean isMoney(long amount) {
        return amount >= 0 && amount <= MOST_MONEY;
    }

    private static boolean hasItem(int set, int item) {
        return (set & 1 << item) != 0;
    }

    /** The steps, which of them are free, and the pipes. */
    private static final class Wall {
        final int steps;
        final boolean[] free;
        final int[] pipes;
        int pipeCount;

        Wall(int steps) {
            this.steps = steps;
            free = new boolean[steps];
            pipes = new int[MOST_PIPES];
            pipeCount = 0;
        }

        boolean isStep(int at) {
            return at >= 0 && at < steps;
        }

        boolean isFree(int at) {
            return isStep(at) && free[at];
        }

        boolean makeFree(int from, int to) {
            boolean changed = false;
            for (int step = from; step < to; step++) {
                if (!free[step]) {
                    free[step] = true;
                    changed = true;
                }
            }
            return changed;
        }

        boolean addPipe(int at) {
            if (pipeCount >= MOST_PIPES || hasPipeWithin(at, 1, 0)) {
                return false;
            }
            pipes[pipeCount] = at;
            pipeCount++;
            return true;
        }

        /** Whether a pipe is at most so many steps from a piece's first or last step, or on it. */
        boolean hasPipeWithin(int begin, int width, int most) {
            for (int k = 0; k < pipeCount; k++) {
                if (pipes[k] >= begin - most && pipes[k] <= begin + width - 1 + most) {
                    return true;
                }
            }
            return false;
        }

        boolean holds(int begin, int width) {
            return begin >= 0 && begin + width <= steps;
        }

        /** How many steps from one on come before a free one or the end. */
        int stepsBeforeFree(int at) {
            int end = at;
            while (end < steps && !free[end]) {
                end++;
            }
            return end - at;
        }
    }

    /** What is told of the items, alone and in pairs. */
    private static final class Items {
        final int[] width;
        final int[] needMost;
        final int[] barredSet;
        // Rows and columns beyond the items stay 0, so that a filler before needs no case of its own.
        final long[] nearWorth;
        // Sums over sets of items, a bit for each item.
        final int[] setWidth;
        final long[] setWorth;
        final long[] setCents;
        int mustSet;
        int count;

        Items() {
            width = new int[MOST_ITEMS];
            needMost = new int[MOST_ITEMS];
            barredSet = new int[BEFORES];
            nearWorth = new long[BEFORES * BEFORES];
            setWidth = new int[SETS];
            setWorth = new long[SETS];
            setCents = new long[SETS];
            mustSet = 0;
            count = 0;
        }

        int add(int itemWidth, long worth, long cents) {
            int item = count;
            width[item] = itemWidth;
            needMost[item] = NONE;
            int bit = 1 << item;
            for (int others = 0; others < bit; others++) {
                setWidth[bit + others] = setWidth[others] + itemWidth;
                setWorth[bit + others] = setWorth[others] + worth;
                setCents[bit + others] = setCents[others] + cents;
            }
            count++;
            return item;
        }

        boolean setNeed(int item, int most) {
            boolean changed = needMost[item] != most;
            needMost[item] = most;
            return changed;
        }

        boolean setNear(int a, int b, long worth) {
            boolean changed = nearWorthOf(a, b) != worth;
            nearWorth[a * BEFORES + b] = worth;
            nearWorth[b * BEFORES + a] = worth;
            return changed;
        }

        boolean setBarred(int a, int b) {
            boolean changed = !isBarred(a, b);
            barredSet[a] |= 1 << b;
            barredSet[b] |= 1 << a;
            return changed;
        }

        boolean setMust(int item, boolean on) {
            int after = on ? mustSet | 1 << item : mustSet & ~(1 << item);
            boolean changed = after != mustSet;
            mustSet = after;
            return changed;
        }

        long nearWorthOf(int before, int item) {
            return nearWorth[before * BEFORES + item];
        }

        boolean isBarred(int before, int item) {
            return (barredSet[before] & 1 << item) != 0;
        }

        boolean isNeedMet(int item, int begin, Wall wall) {
            return needMost[item] == NONE || wall.hasPipeWithin(begin, width[item], needMost[item]);
        }
    }

    /** How wide fillers are. */
    private static final class Fillers {
        int least;
        int most;

        Fillers() {
            // Nothing is at least 1 and at most 0: no width is a filler's until one is told.
            least = 1;
            most = 0;
        }

        boolean setRange(int newLeast, int newMost) {
            boolean changed = least != newLeast || most != newMost;
            least = newLeast;
            most = newMost;
            return changed;
        }

        boolean isWidth(int steps) {
            return steps >= least && steps <= most;
        }
    }

    /** The pieces of a plan, and the tops that they make. */
    private static final class Plan {
        final int[] pieceItem;
        final int[] pieceBegin;
        final int[] pieceSteps;
        final int[] topBegin;
        final int[] topSteps;
        final int[] beginOf;
        int count;
        int topCount;
        int itemSet;
        long wholeWorth;
        long wholeCents;

        Plan() {
            pieceItem = new int[MOST_STEPS];
            pieceBegin = new int[MOST_STEPS];
            pieceSteps = new int[MOST_STEPS];
            topBegin = new int[MOST_STEPS];
            topSteps = new int[MOST_STEPS];
            beginOf = new int[MOST_ITEMS];
        }

        void clear(long worth, long cents) {
            Arrays.fill(beginOf, NONE);
            count = 0;
            topCount = 0;
            itemSet = 0;
            wholeWorth = worth;
            wholeCents = cents;
        }

        void add(int item, int begin, int steps) {
            if (count >= MOST_STEPS) {
                return;
            }
            pieceItem[count] = item;
            pieceBegin[count] = begin;
            pieceSteps[count] = steps;
            count++;
            if (item != NONE) {
                beginOf[item] = begin;
                itemSet |= 1 << item;
            }
            addToTops(begin, steps);
        }

        private void addToTops(int begin, int steps) {
            int last = topCount - 1;
            if (last >= 0 && topBegin[last] + topSteps[last] == begin) {
                topSteps[last] += steps;
                return;
            }
            topBegin[topCount] = begin;
            topSteps[topCount] = steps;
            topCount++;
        }
    }

    /**
     * For each step, each set of items that are all still to come, and each thing that may stand
     * just before: the greatest near worth from there to the end, or NO_WAY. As the set is exact,
     * one table serves the best plan and every variant of it.
     */
    private static final class Table {
        final Wall wall;
        final Items items;
        final Fillers fillers;
        final long[] values;
        final int[] fittingSet;
        final int[] longestFiller;

        Table(Wall wall, Items items, Fillers fillers) {
            this.wall = wall;
            this.items = items;
            this.fillers = fillers;
            values = new long[(wall.steps + 1) * SETS * BEFORES];
            fittingSet = new int[wall.steps];
            longestFiller = new int[wall.steps];
        }

        void fill() {
            Arrays.fill(values, NO_WAY);
            for (int before = 0; before < BEFORES; before++) {
                values[cell(wall.steps, 0) + before] = 0;
            }
            int room = 0;
            for (int at = wall.steps - 1; at >= 0; at--) {
                if (wall.free[at]) {
                    passOver(at);
                } else {
                    room++;
                    fillStep(at, room);
                }
            }
        }

        /** Behind a free step nothing stands before, whatever stood before the free step. */
        private void passOver(int at) {
            for (int left = 0; left < 1 << items.count; left++) {
                long value = valueOf(at + 1, left, NOTHING_BEFORE);
                for (int before = 0; before < BEFORES; before++) {
                    values[cell(at, left) + before] = value;
                }
            }
        }

        private void fillStep(int at, int room) {
            int open = wall.stepsBeforeFree(at);
            fittingSet[at] = itemsThatFit(at, open);
            longestFiller[at] = Math.min(fillers.most, open);
            for (int left = 0; left < 1 << items.count; left++) {
                // What is wider than all that is left has no way, as the table says already.
                if (items.setWidth[left] <= room) {
                    fillCell(at, left);
                }
            }
        }

        private int itemsThatFit(int at, int open) {
            int set = 0;
            for (int item = 0; item < items.count; item++) {
                if (items.width[item] <= open && items.isNeedMet(item, at, wall)) {
                    set |= 1 << item;
                }
            }
            return set;
        }

        private void fillCell(int at, int left) {
            int cell = cell(at, left);
            long withFiller = bestWithFiller(at, left);
            for (int before = 0; before < BEFORES; before++) {
                values[cell + before] = before == FILLER_BEFORE ? NO_WAY : withFiller;
            }
            int fitting = left & fittingSet[at];
            for (int item = 0; item < items.count; item++) {
                if (hasItem(fitting, item)) {
                    offerItem(cell, item, valueOf(at + items.width[item], left & ~(1 << item), item));
                }
            }
        }

        private long bestWithFiller(int at, int left) {
            long best = NO_WAY;
            int longest = longestFiller[at];
            // The dearest loop of a run: it goes from step to step without counting cells anew.
            int index = cell(at + fillers.least, left) + FILLER_BEFORE;
            for (int width = fillers.least; width <= longest; width++) {
                if (values[index] > best) {
                    best = values[index];
                }
                index += SETS * BEFORES;
            }
            return best;
        }

        private void offerItem(int cell, int item, long behind) {
            if (behind == NO_WAY) {
                return;
            }
            int barred = items.barredSet[item];
            for (int before = 0; before < BEFORES; before++) {
                long value = behind + items.nearWorth[item * BEFORES + before];
                if (value > values[cell + before] && !hasItem(barred, before)) {
                    values[cell + before] = value;
                }
            }
        }

        /** Whether a best way from here on begins with that item. */
        boolean isItemBest(int at, int left, int before, int item) {
            if (!hasItem(left & fittingSet[at], item) || items.isBarred(before, item)) {
                return false;
            }
            long behind = valueOf(at + items.width[item], left & ~(1 << item), item);
            return behind != NO_WAY && behind + items.nearWorthOf(before, item) == valueOf(at, left, before);
        }

        /** Whether a best way from here on begins with a filler of that width. */
        boolean isFillerBest(int at, int left, int before, int width) {
            long behind = valueOf(at + width, left, FILLER_BEFORE);
            return before != FILLER_BEFORE && behind != NO_WAY && behind == valueOf(at, left, before);
        }

        long valueOf(int at, int left, int before) {
            return values[(at * SETS + left) * BEFORES + before];
        }

        private static int cell(int at, int left) {
            return (at * SETS + left) * BEFORES;
        }
    }

    /** Finds the best plan: first the sets of items that are equally good, then piece by piece. */
    private static final class Planner {
        final Wall wall;
        final Items items;
        final Table table;
        final Plan latest;
        final int[] tiedSets;
        int tiedCount;
        long bestWorth;
        long bestCents;
        // Where the plan that is laid out has come to.
        int at;
        int before;

        Planner(Wall wall, Items items, Fillers fillers) {
            this.wall = wall;
            this.items = items;
            table = new Table(wall, items, fillers);
            latest = new Plan();
            tiedSets = new int[SETS];
        }

        /** Whether there is a plan that is unlike enough; the sets of the best ones are tied then. */
        boolean chooseSets(int[] toldSets, int toldCount, int unlike) {
            tiedCount = 0;
            for (int set = 0; set < 1 << items.count; set++) {
                if ((items.mustSet & ~set) == 0 && isUnlike(set, toldSets, toldCount, unlike)) {
                    offerSet(set);
                }
            }
            return tiedCount > 0;
        }

        private static boolean isUnlike(int set, int[] toldSets, int toldCount, int unlike) {
            for (int k = 0; k < toldCount; k++) {
                if (Integer.bitCount(set ^ toldSets[k]) < unlike) {
                    return false;
                }
            }
            return true;
        }

        private void offerSet(int set) {
            long nearWorth = table.valueOf(0, set, NOTHING_BEFORE);
            if (nearWorth == NO_WAY) {
                return;
            }
            long worth = items.setWorth[set] + nearWorth;
            long cents = items.setCents[set];
            if (tiedCount > 0 && (worth < bestWorth || worth == bestWorth && cents > bestCents)) {
                return;
            }
            if (tiedCount > 0 && (worth > bestWorth || cents < bestCents)) {
                tiedCount = 0;
            }
            bestWorth = worth;
            bestCents = cents;
            tiedSets[tiedCount] = set;
            tiedCount++;
        }

        /** The first of the best plans, in the order of pieces, becomes the latest one. */
        void layOut() {
            latest.clear(bestWorth, bestCents);
            at = 0;
            before = NOTHING_BEFORE;
            for (int step = 0; step < wall.steps && at < wall.steps; step++) {
                if (wall.isFree(at)) {
                    at++;
                    before = NOTHING_BEFORE;
                } else if (!takeItem() && !takeFiller()) {
                    return;
                }
            }
        }

        private boolean takeItem() {
            for (int item = 0; item < items.count; item++) {
                if (keepSets(item, items.width[item])) {
                    takePiece(item, items.width[item]);
                    return true;
                }
            }
            return false;
        }

        private boolean takeFiller() {
            for (int width = table.fillers.least; width <= table.longestFiller[at]; width++) {
                if (keepSets(NONE, width)) {
                    takePiece(NONE, width);
                    return true;
                }
            }
            return false;
        }

        private void takePiece(int item, int width) {
            latest.add(item, at, width);
            at += width;
            before = item == NONE ? FILLER_BEFORE : item;
        }

        /** Keeps the tied sets for which that piece is best here; all of them if it is for none. */
        private boolean keepSets(int item, int width) {
            int kept = 0;
            for (int k = 0; k < tiedCount; k++) {
                int left = tiedSets[k] & ~latest.itemSet;
                boolean isBest = item == NONE
                        ? table.isFillerBest(at, left, before, width)
                        : table.isItemBest(at, left, before, item);
                if (isBest) {
                    tiedSets[kept] = tiedSets[k];
                    kept++;
                }
            }
            if (kept == 0) {
                return false;
            }
            tiedCount = kept;
            return true;
        }
    }

    /** Items that are put where one likes, and the rules that they break. */
    private static final class Row {
        final Wall wall;
        final Items items;
        final Fillers fillers;
        final int[] begin;

        Row(Wall wall, Items items, Fillers fillers) {
            this.wall = wall;
            this.items = items;
            this.fillers = fillers;
            begin = new int[MOST_ITEMS];
            Arrays.fill(begin, TAKEN_OFF);
        }

        boolean put(int item, int newBegin) {
            boolean changed = begin[item] != newBegin;
            begin[item] = newBegin;
            return changed;
        }

        int firstBrokenRule() {
            if (someIsOffTheWall()) {
                return 1;
            }
            if (someShareAStep()) {
                return 2;
            }
            if (someIsOnAFreeStep()) {
                return 3;
            }
            if ((items.mustSet & ~putSet()) != 0) {
                return 4;
            }
            if (someNeedIsNotMet()) {
                return 5;
            }
            if (someBarredTouch()) {
                return 6;
            }
            return someGapIsNoFiller() ? 7 : 0;
        }

        long wholeWorth() {
            long sum = items.setWorth[putSet()];
            for (int a = 0; a < items.count; a++) {
                for (int b = a + 1; b < items.count; b++) {
                    if (doTouch(a, b)) {
                        sum += items.nearWorthOf(a, b);
                    }
                }
            }
            return sum;
        }

        private boolean isPut(int item) {
            return begin[item] != TAKEN_OFF;
        }

        private int putSet() {
            int set = 0;
            for (int item = 0; item < items.count; item++) {
                if (isPut(item)) {
                    set |= 1 << item;
                }
            }
            return set;
        }

        private int endOf(int item) {
            return begin[item] + items.width[item];
        }

        private boolean doTouch(int a, int b) {
            return isPut(a) && isPut(b) && (endOf(a) == begin[b] || endOf(b) == begin[a]);
        }

        private boolean doShare(int a, int b) {
            return isPut(a) && isPut(b) && begin[a] < endOf(b) && begin[b] < endOf(a);
        }

        private boolean covers(int item, int step) {
            return isPut(item) && step >= begin[item] && step < endOf(item);
        }

        private boolean isCovered(int step) {
            for (int item = 0; item < items.count; item++) {
                if (covers(item, step)) {
                    return true;
                }
            }
            return false;
        }

        private boolean someIsOffTheWall() {
            for (int item = 0; item < items.count; item++) {
                if (isPut(item) && !wall.holds(begin[item], items.width[item])) {
                    return true;
                }
            }
            return false;
        }

        private boolean someShareAStep() {
            for (int a = 0; a < items.count; a++) {
                for (int b = a + 1; b < items.count; b++) {
                    if (doShare(a, b)) {
                        return true;
                    }
                }
            }
            return false;
        }

        private boolean someIsOnAFreeStep() {
            for (int step = 0; step < wall.steps; step++) {
                if (wall.free[step] && isCovered(step)) {
                    return true;
                }
            }
            return false;
        }

        private boolean someNeedIsNotMet() {
            for (int item = 0; item < items.count; item++) {
                if (isPut(item) && !items.isNeedMet(item, begin[item], wall)) {
                    return true;
                }
            }
            return false;
        }

        private boolean someBarredTouch() {
            for (int a = 0; a < items.count; a++) {
                for (int b = a + 1; b < items.count; b++) {
                    if (items.isBarred(a, b) && doTouch(a, b)) {
                        return true;
                    }
                }
            }
            return false;
        }

        private boolean someGapIsNoFiller() {
            int gap = 0;
            for (int step = 0; step < wall.steps; step++) {
                if (!wall.free[step] && !isCovered(step)) {
                    gap++;
                } else if (gap > 0 && !fillers.isWidth(gap)) {
                    return true;
                } else {
                    gap = 0;
                }
            }
            return gap > 0 && !fillers.isWidth(gap);
        }
    }
}
