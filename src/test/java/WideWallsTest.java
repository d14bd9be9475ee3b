import java.util.Random;

/**
 * Walls of 40 steps with six items and wide fillers: too many plans to keep, so they are gone through
 * in the document's order, and of each set of items the first of the best ones is kept. The seeds are
 * fixed.
 */
public final class WideWallsTest {
    private static final int NONE = RoomFills.NONE;
    private static final int STEPS = 40;
    private static final int ITEMS = 6;
    // With all that is asked of each, an object stays below 512 calls.
    private static final int PLANS = 11;

    private static int wrong = 0;
    private static int done = 0;
    private static long plans = 0;

    private static void due(String what, Object got, Object want) {
        done++;
        if (!got.equals(want)) {
            wrong++;
            System.out.println(what + ": got " + got + ", due is " + want);
        }
    }

    private static final class Room {
        final boolean[] free = new boolean[STEPS];
        final boolean[] pipe = new boolean[STEPS];
        final int[] width = new int[ITEMS];
        final long[] worth = new long[ITEMS];
        final long[] cents = new long[ITEMS];
        final int[] need = new int[ITEMS];
        final long[][] near = new long[ITEMS][ITEMS];
        final boolean[][] barred = new boolean[ITEMS][ITEMS];
        int must = 0;
        int least;
        int most;

        // The pieces so far: an item's number, or -1 - width for a filler.
        final int[] pieces = new int[STEPS];
        final String[] bestText = new String[1 << ITEMS];
        final long[] bestWorth = new long[1 << ITEMS];
        final long[] bestCents = new long[1 << ITEMS];

        boolean fits(int at, int steps) {
            if (at + steps > STEPS) {
                return false;
            }
            for (int step = at; step < at + steps; step++) {
                if (free[step]) {
                    return false;
                }
            }
            return true;
        }

        boolean isNeedMet(int item, int at) {
            boolean isMet = need[item] == NONE;
            for (int step = 0; step < STEPS; step++) {
                int last = at + width[item] - 1;
                int away = step < at ? at - step : step > last ? step - last : 0;
                isMet |= pipe[step] && away <= need[item];
            }
            return isMet;
        }

        /** Before is the item just before, NONE for nothing, ITEMS for a filler. */
        void go(int at, int count, int set, int before, long sum, long paid) {
            if (at == STEPS) {
                end(count, set, sum, paid);
                return;
            }
            if (free[at]) {
                go(at + 1, count, set, NONE, sum, paid);
                return;
            }
            for (int item = 0; item < ITEMS; item++) {
                boolean isBeside = before >= 0 && before < ITEMS;
                if ((set & 1 << item) == 0 && fits(at, width[item]) && isNeedMet(item, at)
                        && !(isBeside && barred[before][item])) {
                    pieces[count] = item;
                    long more = worth[item] + (isBeside ? near[before][item] : 0);
                    go(at + width[item], count + 1, set | 1 << item, item, sum + more, paid + cents[item]);
                }
            }
            for (int steps = least; before != ITEMS && steps <= most && fits(at, steps); steps++) {
                pieces[count] = -1 - steps;
                go(at + steps, count + 1, set, ITEMS, sum, paid);
            }
        }

        void end(int count, int set, long sum, long paid) {
            plans++;
            boolean isFirst = bestText[set] == null;
            if (isFirst || sum > bestWorth[set] || sum == bestWorth[set] && paid < bestCents[set]) {
                bestWorth[set] = sum;
                bestCents[set] = paid;
                bestText[set] = text(count);
            }
        }

        /** Compared as text, pieces come in the document's order: items, then fillers by width. */
        String text(int count) {
            StringBuilder text = new StringBuilder();
            for (int k = 0; k < count; k++) {
                text.append((char) (pieces[k] >= 0 ? '0' + pieces[k] : 'A' - 1 - pieces[k]));
            }
            return text.toString();
        }

        int best(int[] told, int count, int unlike) {
            int best = NONE;
            for (int set = 0; set < 1 << ITEMS; set++) {
                boolean isRight = bestText[set] != null && (set & must) == must;
                for (int k = 0; k < count; k++) {
                    isRight &= Integer.bitCount(set ^ told[k]) >= unlike;
                }
                if (isRight && (best == NONE || isBetter(set, best))) {
                    best = set;
                }
            }
            return best;
        }

        boolean isBetter(int a, int b) {
            if (bestWorth[a] != bestWorth[b]) {
                return bestWorth[a] > bestWorth[b];
            }
            if (bestCents[a] != bestCents[b]) {
                return bestCents[a] < bestCents[b];
            }
            return bestText[a].compareTo(bestText[b]) < 0;
        }
    }

    private static int between(Random random, int from, int to) {
        return from + random.nextInt(to - from + 1);
    }

    private static Room randomRoom(Random random, boolean isTied) {
        Room room = new Room();
        int sum = 0;
        for (int item = 0; item < ITEMS; item++) {
            room.width[item] = between(random, 4, 8);
            room.worth[item] = isTied ? 3 : between(random, 0, 100000);
            room.cents[item] = isTied ? 2 : between(random, 0, 100000);
            room.need[item] = random.nextInt(3) == 0 ? between(random, 0, 6) : NONE;
            sum += room.width[item];
        }
        for (int item = 0; item < ITEMS; item++) {
            for (int other = 0; other < item; other++) {
                room.near[item][other] = random.nextInt(2) == 0 ? 0 : isTied ? 1 : between(random, 0, 100000);
                room.near[other][item] = room.near[item][other];
                room.barred[item][other] = random.nextInt(6) == 0;
                room.barred[other][item] = room.barred[item][other];
            }
        }
        for (int k = 0; k < 6; k++) {
            room.pipe[random.nextInt(STEPS)] = true;
        }
        int doors = random.nextInt(3);
        for (int k = 0; k < doors; k++) {
            room.free[random.nextInt(STEPS)] = true;
        }
        room.must = random.nextInt(3) == 0 ? 1 << random.nextInt(ITEMS) : 0;
        room.least = between(random, 1, 3);
        room.most = between(random, STEPS - sum > 8 ? 4 : 8, 40);
        return room;
    }

    private static RoomFills tell(Room room) {
        RoomFills x = new RoomFills(STEPS);
        for (int step = 0; step < STEPS; step++) {
            if (room.free[step]) {
                x.door(step, step + 1);
            }
            if (room.pipe[step]) {
                x.pipe(step);
            }
        }
        for (int item = 0; item < ITEMS; item++) {
            x.item(room.width[item], room.worth[item], room.cents[item]);
            x.need(item, room.need[item]);
            x.must(item, (room.must & 1 << item) != 0);
            for (int other = 0; other < item; other++) {
                x.near(other, item, room.near[item][other]);
                if (room.barred[item][other]) {
                    x.bar(item, other);
                }
            }
        }
        x.filler(room.least, room.most);
        return x;
    }

    private static String latest(RoomFills x, int count) {
        StringBuilder text = new StringBuilder();
        for (int k = 0; k < count; k++) {
            int item = x.plan(k, 0);
            text.append((char) (item != NONE ? '0' + item : 'A' + x.plan(k, 2)));
        }
        return text.append(' ').append(x.worth(0)).append(' ').append(x.worth(1)).toString();
    }

    private static String wanted(Room room, int set) {
        return room.bestText[set] + " " + room.bestWorth[set] + " " + room.bestCents[set];
    }

    /** A plan put as a row breaks no rule and has the plan's worth. */
    private static void asRow(String how, RoomFills x) {
        for (int item = 0; item < ITEMS; item++) {
            int at = x.at(item);
            x.place(item, at == NONE ? NONE - 100 : at);
        }
        due(how + " as a row", x.check() + " " + x.row(), "0 " + x.worth(0));
    }

    private static void oneRoom(int seed) {
        Random random = new Random(seed);
        Room room = randomRoom(random, seed % 2 == 0);
        room.go(0, 0, 0, NONE, 0, 0);
        RoomFills x = tell(room);
        int[] told = new int[PLANS];
        int count = 0;
        for (int k = 0; k < PLANS; k++) {
            int unlike = k == 0 ? 0 : between(random, 1, 3);
            int set = room.best(told, count, unlike);
            String how = "seed " + seed + ", plan " + k + ", unlike " + unlike;
            int pieces = k == 0 ? x.run() : x.variant(unlike);
            due(how, pieces, set == NONE ? NONE : room.bestText[set].length());
            if (set == NONE && k == 0) {
                return;
            }
            if (set != NONE && pieces != NONE) {
                told[count] = set;
                count++;
                due(how, latest(x, pieces), wanted(room, set));
                asRow(how, x);
            }
        }
    }

    public static void main(String[] args) {
        int rooms = args.length > 0 ? Integer.parseInt(args[0]) : 40;
        for (int seed = 1; seed <= rooms; seed++) {
            oneRoom(seed);
        }
        String how = done + " answers, from " + plans + " plans";
        System.out.println(wrong == 0 ? "all as due: " + how : wrong + " are not as due: " + how);
        if (wrong != 0) {
            System.exit(1);
        }
    }
}
