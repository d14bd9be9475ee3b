import java.util.ArrayList;
import java.util.Arrays;
import java.util.List;
import java.util.Random;

/**
 * Every room of 1 and 2 steps with two items of small numbers, some thousand larger ones. The model does not walk
 * from step to step as run() does: it puts each item at each step or nowhere, and what breaks no rule is a plan.
 */
public final class SmallRoomsTest {
    private static final int NONE = -1;
    private static final int OFF = NONE - 100;
    private static final int OPEN = -2;
    private static final int FREE = -3;
    private static final int MOST_TOLD = 16;

    private static final class Room {
        final int steps;
        final int items;
        int free;
        int pipes;
        int must;
        int least;
        int most;
        final int[] width = new int[6];
        final int[] need = {NONE, NONE, NONE, NONE, NONE, NONE};
        final long[] worth = new long[6];
        final long[] cents = new long[6];
        final long[][] near = new long[6][6];
        final boolean[][] barred = new boolean[6][6];

        Room(int steps, int items) {
            this.steps = steps;
            this.items = items;
        }

        void pair(int a, int b, long nearWorth, boolean isBarred) {
            near[a][b] = nearWorth;
            near[b][a] = nearWorth;
            barred[a][b] = isBarred;
            barred[b][a] = isBarred;
        }

        RoomFills told() {
            RoomFills x = new RoomFills(steps);
            for (int item = 0; item < items; item++) {
                x.item(width[item], worth[item], cents[item]);
                x.need(item, need[item]);
                x.must(item, has(must, item));
            }
            for (int a = 0; a < items; a++) {
                for (int b = a + 1; b < items; b++) {
                    x.near(b, a, near[a][b]);
                    if (barred[a][b]) {
                        x.bar(a, b);
                    }
                }
            }
            for (int step = 0; step < steps; step++) {
                if (has(free, step)) {
                    x.door(step, step + 1);
                }
                if (has(pipes, step)) {
                    x.pipe(step);
                }
            }
            if (most > 0) {
                x.filler(least, most);
            }
            return x;
        }

        @Override
        public String toString() {
            return "steps " + steps + " free " + Integer.toBinaryString(free) + " pipes " + Integer.toBinaryString(pipes)
                    + " items " + items + " width " + Arrays.toString(width) + " worth " + Arrays.toString(worth)
                    + " cents " + Arrays.toString(cents) + " need " + Arrays.toString(need)
                    + " must " + Integer.toBinaryString(must) + " near " + Arrays.deepToString(near)
                    + " barred " + Arrays.deepToString(barred) + " fillers " + least + ".." + most;
        }
    }

    private static final class Plan {
        final int[] begin;
        // Item or NONE, begin, steps.
        final List<int[]> pieces = new ArrayList<>();
        int set = 0;
        long worth = 0;
        long cents = 0;

        Plan(int[] begin) {
            this.begin = begin.clone();
        }
    }

    private static boolean has(int set, int bit) {
        return (set >> bit & 1) != 0;
    }

    private static boolean needIsMet(Room room, int item, int begin) {
        if (room.need[item] == NONE) {
            return true;
        }
        for (int own = begin; own < begin + room.width[item]; own++) {
            for (int pipe = 0; pipe < room.steps; pipe++) {
                if (has(room.pipes, pipe) && Math.abs(pipe - own) <= room.need[item]) {
                    return true;
                }
            }
        }
        return false;
    }

    /** Whose each step is, or null if the items can't stand so. */
    private static int[] owners(Room room, int[] begin) {
        int[] owner = new int[room.steps];
        for (int step = 0; step < room.steps; step++) {
            owner[step] = has(room.free, step) ? FREE : OPEN;
        }
        for (int item = 0; item < room.items; item++) {
            if (begin[item] == NONE) {
                if (has(room.must, item)) {
                    return null;
                }
                continue;
            }
            if (begin[item] + room.width[item] > room.steps || !needIsMet(room, item, begin[item])) {
                return null;
            }
            for (int step = begin[item]; step < begin[item] + room.width[item]; step++) {
                if (owner[step] != OPEN) {
                    return null;
                }
                owner[step] = item;
            }
        }
        return owner;
    }

    private static boolean addPairs(Room room, int[] owner, Plan plan) {
        for (int step = 0; step + 1 < room.steps; step++) {
            int a = owner[step];
            int b = owner[step + 1];
            if (a >= 0 && b >= 0 && a != b) {
                if (room.barred[a][b]) {
                    return false;
                }
                plan.worth += room.near[a][b];
            }
        }
        return true;
    }

    private static boolean addPieces(Room room, int[] owner, Plan plan) {
        int step = 0;
        while (step < room.steps) {
            int end = step + 1;
            while (end < room.steps && owner[end] == owner[step]) {
                end++;
            }
            int steps = end - step;
            if (owner[step] == OPEN) {
                if (room.most == 0 || steps < room.least || steps > room.most) {
                    return false;
                }
                plan.pieces.add(new int[] {NONE, step, steps});
            } else if (owner[step] != FREE) {
                plan.pieces.add(new int[] {owner[step], step, steps});
            }
            step = end;
        }
        return true;
    }

    private static void addIfPlan(Room room, int[] begin, List<Plan> plans) {
        int[] owner = owners(room, begin);
        Plan plan = new Plan(begin);
        if (owner == null || !addPairs(room, owner, plan) || !addPieces(room, owner, plan)) {
            return;
        }
        for (int item = 0; item < room.items; item++) {
            if (begin[item] != NONE) {
                plan.set |= 1 << item;
                plan.worth += room.worth[item];
                plan.cents += room.cents[item];
            }
        }
        plans.add(plan);
    }

    private static void putAll(Room room, int item, int[] begin, List<Plan> plans) {
        if (item == room.items) {
            addIfPlan(room, begin, plans);
            return;
        }
        for (int at = NONE; at < room.steps; at++) {
            begin[item] = at;
            putAll(room, item + 1, begin, plans);
        }
    }

    private static int order(Plan a, Plan b) {
        if (a.worth != b.worth) {
            return Long.compare(b.worth, a.worth);
        }
        if (a.cents != b.cents) {
            return Long.compare(a.cents, b.cents);
        }
        for (int k = 0; k < a.pieces.size() && k < b.pieces.size(); k++) {
            int[] one = a.pieces.get(k);
            int[] other = b.pieces.get(k);
            if (one[0] != other[0]) {
                return one[0] == NONE ? 1 : other[0] == NONE ? -1 : Integer.compare(one[0], other[0]);
            }
            if (one[2] != other[2]) {
                return Integer.compare(one[2], other[2]);
            }
        }
        return 0;
    }

    private static long wrong = 0;
    private static long done = 0;

    private static void due(Room room, String what, long got, long want) {
        done++;
        if (got != want) {
            wrong++;
            if (wrong <= 20) {
                System.out.println(what + " answered " + got + ", due is " + want + ", in " + room);
            }
        }
    }

    private static void compare(Room room, RoomFills x, String what, int pieces, Plan plan) {
        due(room, what, pieces, plan == null ? NONE : plan.pieces.size());
        if (plan == null || pieces != plan.pieces.size()) {
            return;
        }
        due(room, what + ", worth(0)", x.worth(0), plan.worth);
        due(room, what + ", worth(1)", x.worth(1), plan.cents);
        for (int item = 0; item < room.items; item++) {
            due(room, what + ", at(" + item + ")", x.at(item), plan.begin[item]);
        }
        for (int k = 0; k < pieces; k++) {
            for (int w = 0; w < 3; w++) {
                due(room, what + ", plan(" + k + ", " + w + ")", x.plan(k, w), plan.pieces.get(k)[w]);
            }
        }
        compareTops(room, x, what);
    }

    /** All of the wall is filled but its free steps, so tops are what lies between these. */
    private static void compareTops(Room room, RoomFills x, String what) {
        int tops = 0;
        for (int step = 0; step < room.steps; step++) {
            if (!has(room.free, step) && (step == 0 || has(room.free, step - 1))) {
                int end = step;
                while (end < room.steps && !has(room.free, end)) {
                    end++;
                }
                due(room, what + ", top(" + tops + ", 0)", x.top(tops, 0), step);
                due(room, what + ", top(" + tops + ", 1)", x.top(tops, 1), end - step);
                tops++;
            }
        }
        due(room, what + ", top(NONE, 0)", x.top(NONE, 0), tops);
    }

    private static Plan firstUnlike(List<Plan> plans, List<Plan> told, int unlike) {
        plans:
        for (Plan plan : plans) {
            for (Plan other : told) {
                if (Integer.bitCount(plan.set ^ other.set) < unlike) {
                    continue plans;
                }
            }
            return plan;
        }
        return null;
    }

    private static void placeAsRow(Room room, RoomFills x, Plan plan) {
        for (int item = 0; item < room.items; item++) {
            x.place(item, plan.begin[item] == NONE ? OFF : plan.begin[item]);
        }
        due(room, "check() of the plan", x.check(), 0);
        due(room, "row() of the plan", x.row(), plan.worth);
    }

    private static void oneRoom(Room room, int[] unlikes) {
        RoomFills x = room.told();
        List<Plan> plans = new ArrayList<>();
        putAll(room, 0, new int[6], plans);
        plans.sort(SmallRoomsTest::order);
        List<Plan> told = new ArrayList<>();
        Plan latest = firstUnlike(plans, told, 0);
        compare(room, x, "run()", x.run(), latest);
        if (latest == null) {
            return;
        }
        told.add(latest);
        placeAsRow(room, x, latest);
        for (int unlike : unlikes) {
            if (told.size() == MOST_TOLD) {
                return;
            }
            String what = "variant(" + unlike + ")";
            Plan next = firstUnlike(plans, told, unlike);
            int pieces = x.variant(unlike);
            due(room, what, pieces, next == null ? NONE : next.pieces.size());
            if (next != null) {
                told.add(next);
                latest = next;
            }
            compare(room, x, what, latest.pieces.size(), latest);
        }
    }

    private static final int[][] FILLERS = {{0, 0}, {1, 1}, {1, 2}, {2, 2}, {1, 40}, {3, 3}};
    private static final int[][] UNLIKES = {{1, 1, 0, 1, 1}, {2, 1, 2, 1}};

    /** What of a room is chosen by a number: the number's lowest digits, one after the other. */
    private static int rest;

    private static int digit(int base) {
        int digit = rest % base;
        rest /= base;
        return digit;
    }

    /** All rooms of so many steps: two items 1 .. 3 wide, worth and cents 0 or 1, needs NONE .. 1. */
    private static void everyRoom(int steps) {
        for (int number = 0; rest == 0; number++) {
            rest = number;
            Room room = new Room(steps, 2);
            for (int item = 0; item < 2; item++) {
                room.width[item] = 1 + digit(3);
                room.worth[item] = digit(2);
                room.cents[item] = digit(2);
                room.need[item] = NONE + digit(3);
            }
            room.must = digit(4);
            room.pair(0, 1, digit(2), digit(2) == 1);
            room.free = digit(1 << steps);
            room.pipes = digit(1 << steps);
            int[] filler = FILLERS[digit(FILLERS.length)];
            room.least = filler[0];
            room.most = filler[1];
            oneRoom(room, UNLIKES[number % 2]);
        }
        rest = 0;
    }

    private static void someRoom(Random random, int leastSteps, int mostSteps, int items) {
        Room room = new Room(leastSteps + random.nextInt(mostSteps - leastSteps + 1), items);
        for (int doors = random.nextInt(4); doors > 0; doors--) {
            int from = random.nextInt(room.steps);
            for (int step = from; step < Math.min(room.steps, from + 1 + random.nextInt(3)); step++) {
                room.free |= 1 << step;
            }
        }
        for (int pipes = random.nextInt(5); pipes > 0; pipes--) {
            room.pipes |= 1 << random.nextInt(room.steps);
        }
        // Few kinds of worth and cents, so that many plans tie.
        int kinds = 1 + random.nextInt(3);
        for (int item = 0; item < items; item++) {
            room.width[item] = 1 + random.nextInt(Math.max(1, room.steps / 2));
            room.worth[item] = random.nextInt(kinds + 1);
            room.cents[item] = random.nextInt(kinds);
            room.need[item] = random.nextInt(3) == 0 ? random.nextInt(3) : NONE;
            room.must |= random.nextInt(6) == 0 ? 1 << item : 0;
            for (int other = 0; other < item; other++) {
                room.pair(item, other, random.nextInt(2) * random.nextInt(3), random.nextInt(5) == 0);
            }
        }
        if (random.nextInt(8) != 0) {
            room.least = 1 + random.nextInt(3);
            room.most = room.least + random.nextInt(4);
        }
        int[] unlikes = new int[MOST_TOLD];
        for (int k = 0; k < unlikes.length; k++) {
            unlikes[k] = random.nextInt(random.nextBoolean() ? 2 : items + 1);
        }
        oneRoom(room, unlikes);
    }

    public static void main(String[] args) {
        everyRoom(1);
        everyRoom(2);
        Random random = new Random(20261116);
        for (int k = 0; k < 2000; k++) {
            someRoom(random, 1, 12, 3);
            someRoom(random, 1, 9, 4);
        }
        for (int k = 0; k < 300; k++) {
            someRoom(random, 4, 8, 5);
            someRoom(random, 3, 6, 6);
        }
        System.out.println(wrong == 0 ? "all " + done + " answers are as due" : wrong + " answers are not as due");
        if (wrong != 0) {
            System.exit(1);
        }
    }
}
