import java.util.ArrayList;
import java.util.List;
import java.util.Random;
import java.util.TreeSet;

/**
 * Runs of calls, right and wrong ones, on RoomFills and on a slow model that follows the document's
 * words: it lists every plan and takes the best by comparing whole plans. The seeds are fixed.
 */
public final class AllPlansTest {
    private static final int NONE = -1;
    private static final int OFF = NONE - 100;

    private static final class Piece {
        final int item;
        final int begin;
        final int steps;

        Piece(int item, int begin, int steps) {
            this.item = item;
            this.begin = begin;
            this.steps = steps;
        }
    }

    private static final class Model {
        final int n;
        final TreeSet<Integer> free = new TreeSet<>();
        final TreeSet<Integer> pipes = new TreeSet<>();
        final List<long[]> items = new ArrayList<>();
        final int[] need = {NONE, NONE, NONE, NONE, NONE, NONE};
        final boolean[] must = new boolean[6];
        final int[] put = {OFF, OFF, OFF, OFF, OFF, OFF};
        final long[][] near = new long[6][6];
        final boolean[][] barred = new boolean[6][6];
        int least = 0;
        int most = 0;
        final List<List<Piece>> told = new ArrayList<>();
        List<List<Piece>> allPlans = null;
        int asked = 0;

        Model(int steps) {
            n = steps < 1 ? 1 : steps > 40 ? 40 : steps;
        }

        boolean isItem(int item) {
            return 0 <= item && item < items.size();
        }

        int width(int item) {
            return (int) items.get(item)[0];
        }

        String news(boolean isNew) {
            if (isNew) {
                told.clear();
                allPlans = null;
            }
            return "" + isNew;
        }

        List<Piece> latest() {
            return told.get(told.size() - 1);
        }

        boolean needMet(int item, int begin) {
            if (need[item] == NONE) {
                return true;
            }
            for (int own = begin; own < begin + width(item); own++) {
                for (int pipe : pipes) {
                    if (Math.abs(pipe - own) <= need[item]) {
                        return true;
                    }
                }
            }
            return false;
        }

        void list(int at, List<Piece> sofar) {
            while (free.contains(at)) {
                at++;
            }
            if (at == n) {
                if (isPlan(sofar)) {
                    allPlans.add(new ArrayList<>(sofar));
                }
                return;
            }
            Piece before = sofar.isEmpty() ? null : sofar.get(sofar.size() - 1);
            boolean behindFiller = before != null && before.item == NONE && before.begin + before.steps == at;
            for (int item = 0; item < items.size(); item++) {
                if (!has(sofar, item)) {
                    listWith(at, new Piece(item, at, width(item)), sofar);
                }
            }
            if (!behindFiller && most > 0) {
                for (int width = least; width <= most; width++) {
                    listWith(at, new Piece(NONE, at, width), sofar);
                }
            }
        }

        void listWith(int at, Piece piece, List<Piece> sofar) {
            if (at + piece.steps > n || !free.subSet(at, at + piece.steps).isEmpty()) {
                return;
            }
            sofar.add(piece);
            list(at + piece.steps, sofar);
            sofar.remove(sofar.size() - 1);
        }

        static boolean has(List<Piece> plan, int item) {
            for (Piece piece : plan) {
                if (piece.item == item) {
                    return true;
                }
            }
            return false;
        }

        boolean isPlan(List<Piece> plan) {
            for (int item = 0; item < items.size(); item++) {
                if (must[item] && !has(plan, item)) {
                    return false;
                }
            }
            for (Piece a : plan) {
                if (a.item != NONE && !needMet(a.item, a.begin)) {
                    return false;
                }
                for (Piece b : plan) {
                    if (touch(a, b) && barred[a.item][b.item]) {
                        return false;
                    }
                }
            }
            return true;
        }

        static boolean touch(Piece a, Piece b) {
            return a.item != NONE && b.item != NONE && a.begin + a.steps == b.begin;
        }

        long sum(List<Piece> plan, int what) {
            long sum = 0;
            for (Piece a : plan) {
                sum += a.item == NONE ? 0 : items.get(a.item)[1 + what];
                for (Piece b : plan) {
                    sum += what == 0 && touch(a, b) ? near[a.item][b.item] : 0;
                }
            }
            return sum;
        }

        boolean isBetter(List<Piece> a, List<Piece> b) {
            if (sum(a, 0) != sum(b, 0)) {
                return sum(a, 0) > sum(b, 0);
            }
            if (sum(a, 1) != sum(b, 1)) {
                return sum(a, 1) < sum(b, 1);
            }
            for (int k = 0; k < a.size() && k < b.size(); k++) {
                int rankA = rank(a.get(k));
                int rankB = rank(b.get(k));
                if (rankA != rankB) {
                    return rankA < rankB;
                }
            }
            return false;
        }

        static int rank(Piece piece) {
            return piece.item == NONE ? 100 + piece.steps : piece.item;
        }

        int unlike(List<Piece> a, List<Piece> b) {
            int count = 0;
            for (int item = 0; item < items.size(); item++) {
                count += has(a, item) != has(b, item) ? 1 : 0;
            }
            return count;
        }

        String find(int unlike) {
            if (allPlans == null) {
                allPlans = new ArrayList<>();
                list(0, new ArrayList<>());
            }
            List<Piece> best = null;
            plans:
            for (List<Piece> plan : allPlans) {
                for (List<Piece> other : told) {
                    if (unlike(plan, other) < unlike) {
                        continue plans;
                    }
                }
                if (best == null || isBetter(plan, best)) {
                    best = plan;
                }
            }
            if (best == null) {
                return "" + NONE;
            }
            told.add(best);
            return "" + best.size();
        }

        List<int[]> tops() {
            List<int[]> tops = new ArrayList<>();
            for (int step = 0; step < n; step++) {
                if (free.contains(step)) {
                    continue;
                }
                if (step > 0 && !free.contains(step - 1)) {
                    tops.get(tops.size() - 1)[1]++;
                } else {
                    tops.add(new int[] {step, 1});
                }
            }
            return tops;
        }

        int owners(int step) {
            int count = 0;
            for (int item = 0; item < items.size(); item++) {
                count += put[item] != OFF && put[item] <= step && step < put[item] + width(item) ? 1 : 0;
            }
            return count;
        }

        boolean rowTouch(int a, int b) {
            return a != b && put[a] != OFF && put[b] != OFF && put[a] + width(a) == put[b];
        }

        int check() {
            for (int step = -100; step < 130; step++) {
                if (owners(step) > 0 && (step < 0 || step >= n)) {
                    return 1;
                }
            }
            for (int step = 0; step < n; step++) {
                if (owners(step) > 1) {
                    return 2;
                }
            }
            for (int step : free) {
                if (owners(step) > 0) {
                    return 3;
                }
            }
            for (int item = 0; item < items.size(); item++) {
                if (must[item] && put[item] == OFF) {
                    return 4;
                }
            }
            for (int item = 0; item < items.size(); item++) {
                if (put[item] != OFF && !needMet(item, put[item])) {
                    return 5;
                }
            }
            for (int a = 0; a < items.size(); a++) {
                for (int b = 0; b < items.size(); b++) {
                    if (barred[a][b] && rowTouch(a, b)) {
                        return 6;
                    }
                }
            }
            return gapsAreFillers() ? 0 : 7;
        }

        boolean gapsAreFillers() {
            StringBuilder text = new StringBuilder();
            for (int step = 0; step < n; step++) {
                text.append(free.contains(step) || owners(step) > 0 ? ' ' : 'x');
            }
            for (String gap : text.toString().split(" ")) {
                if (!gap.isEmpty() && (most == 0 || gap.length() < least || gap.length() > most)) {
                    return false;
                }
            }
            return true;
        }

        long row() {
            long sum = 0;
            for (int a = 0; a < items.size(); a++) {
                sum += put[a] == OFF ? 0 : items.get(a)[1];
                for (int b = 0; b < items.size(); b++) {
                    sum += rowTouch(a, b) ? near[a][b] : 0;
                }
            }
            return sum;
        }
    }

    private static final String STATE = "IllegalStateException";
    private static final String INDEX = "IndexOutOfBoundsException";
    private static final String ARGUMENT = "IllegalArgumentException";

    /** What the document asks of a call; the call's numbers are in c, its name's number first. */
    private static String asked(Model m, long[] c) {
        int a = (int) c[1];
        int b = (int) c[2];
        switch ((int) c[0]) {
            case 0: return askedDoor(m, a, b);
            case 1: return askedPipe(m, a);
            case 2: return askedItem(m, a, c[2], c[3]);
            case 3: return askedNeed(m, a, b);
            case 4: return askedNear(m, a, b, c[3]);
            case 5: return askedBar(m, a, b);
            case 6: return askedMust(m, a, b != 0);
            case 7: return askedFiller(m, a, b);
            case 8: m.told.clear(); return m.find(0);
            case 9: return askedVariant(m, a);
            case 10: return m.told.isEmpty() ? STATE : !m.isItem(a) ? INDEX : askedAt(m, a);
            case 11: return askedPlan(m, a, b);
            case 12: return m.told.isEmpty() ? STATE : a < 0 || a > 1 ? INDEX : "" + m.sum(m.latest(), a);
            case 13: return askedTop(m, a, b);
            case 14: return askedPlace(m, a, b);
            case 15: return "" + m.check();
            default: return "" + m.row();
        }
    }

    private static String askedDoor(Model m, int from, int to) {
        if (from < 0 || from >= m.n || to <= from || to > m.n) {
            return ARGUMENT;
        }
        boolean some = false;
        for (int step = from; step < to; step++) {
            some |= m.free.add(step);
        }
        return m.news(some);
    }

    private static String askedPipe(Model m, int at) {
        if (at < 0 || at >= m.n) {
            return ARGUMENT;
        }
        return m.news(m.pipes.size() < 8 && m.pipes.add(at));
    }

    private static boolean isMoney(long amount) {
        return amount >= 0 && amount <= 100000;
    }

    private static String askedItem(Model m, int width, long worth, long cents) {
        if (m.items.size() == 6) {
            return STATE;
        }
        if (width < 1 || width > 20 || !isMoney(worth) || !isMoney(cents)) {
            return ARGUMENT;
        }
        m.items.add(new long[] {width, worth, cents});
        m.news(true);
        return "" + (m.items.size() - 1);
    }

    private static String askedNeed(Model m, int item, int most) {
        if (!m.isItem(item)) {
            return INDEX;
        }
        if (most < NONE || most > 40) {
            return ARGUMENT;
        }
        boolean other = m.need[item] != most;
        m.need[item] = most;
        return m.news(other);
    }

    private static String askedNear(Model m, int a, int b, long worth) {
        if (!m.isItem(a) || !m.isItem(b)) {
            return INDEX;
        }
        if (a == b || !isMoney(worth)) {
            return ARGUMENT;
        }
        boolean other = m.near[a][b] != worth;
        m.near[a][b] = worth;
        m.near[b][a] = worth;
        return m.news(other);
    }

    private static String askedBar(Model m, int a, int b) {
        if (!m.isItem(a) || !m.isItem(b)) {
            return INDEX;
        }
        if (a == b) {
            return ARGUMENT;
        }
        boolean other = !m.barred[a][b];
        m.barred[a][b] = true;
        m.barred[b][a] = true;
        return m.news(other);
    }

    private static String askedMust(Model m, int item, boolean on) {
        if (!m.isItem(item)) {
            return INDEX;
        }
        boolean other = m.must[item] != on;
        m.must[item] = on;
        return m.news(other);
    }

    private static String askedFiller(Model m, int least, int most) {
        if (least < 1 || least > 40 || most < least || most > 40) {
            return ARGUMENT;
        }
        boolean other = m.least != least || m.most != most;
        m.least = least;
        m.most = most;
        return m.news(other);
    }

    private static String askedVariant(Model m, int unlike) {
        if (m.told.isEmpty() || m.told.size() == 16) {
            return STATE;
        }
        return unlike < 0 || unlike > 6 ? ARGUMENT : m.find(unlike);
    }

    private static String askedAt(Model m, int item) {
        for (Piece piece : m.latest()) {
            if (piece.item == item) {
                return "" + piece.begin;
            }
        }
        return "" + NONE;
    }

    private static String askedPlan(Model m, int k, int what) {
        if (m.told.isEmpty()) {
            return STATE;
        }
        if (k < 0 || k >= m.latest().size()) {
            return INDEX;
        }
        Piece piece = m.latest().get(k);
        return what == 0 ? "" + piece.item : what == 1 ? "" + piece.begin : what == 2 ? "" + piece.steps : ARGUMENT;
    }

    private static String askedTop(Model m, int k, int what) {
        if (m.told.isEmpty()) {
            return STATE;
        }
        List<int[]> tops = m.tops();
        if (k < NONE || k >= tops.size()) {
            return INDEX;
        }
        if (what < 0 || what > 1) {
            return ARGUMENT;
        }
        return "" + (k == NONE ? tops.size() : tops.get(k)[what]);
    }

    private static String askedPlace(Model m, int item, int at) {
        if (!m.isItem(item)) {
            return INDEX;
        }
        if (at < OFF || at > 100) {
            return ARGUMENT;
        }
        boolean other = m.put[item] != at;
        m.put[item] = at;
        return "" + other;
    }

    private static String answered(RoomFills x, long[] c) {
        int a = (int) c[1];
        int b = (int) c[2];
        try {
            switch ((int) c[0]) {
                case 0: return "" + x.door(a, b);
                case 1: return "" + x.pipe(a);
                case 2: return "" + x.item(a, c[2], c[3]);
                case 3: return "" + x.need(a, b);
                case 4: return "" + x.near(a, b, c[3]);
                case 5: return "" + x.bar(a, b);
                case 6: return "" + x.must(a, b != 0);
                case 7: return "" + x.filler(a, b);
                case 8: return "" + x.run();
                case 9: return "" + x.variant(a);
                case 10: return "" + x.at(a);
                case 11: return "" + x.plan(a, b);
                case 12: return "" + x.worth(a);
                case 13: return "" + x.top(a, b);
                case 14: return "" + x.place(a, b);
                case 15: return "" + x.check();
                default: return "" + x.row();
            }
        } catch (RuntimeException thrown) {
            return thrown.getClass().getSimpleName();
        }
    }

    private static final String[] NAMES = {
        "door", "pipe", "item", "need", "near", "bar", "must", "filler", "run", "variant", "at", "plan", "worth",
        "top", "place", "check", "row",
    };

    // What an object answers after so many calls is free.
    private static final int MOST_CALLS = 512;

    private static int wrong = 0;
    private static long calls = 0;

    private static String both(RoomFills x, Model m, String run, long... numbers) {
        long[] c = {numbers[0], 0, 0, 0};
        System.arraycopy(numbers, 0, c, 0, numbers.length);
        String want = asked(m, c);
        m.asked++;
        if (m.asked > MOST_CALLS) {
            return want;
        }
        String got = answered(x, c);
        calls++;
        if (!got.equals(want)) {
            wrong++;
            if (wrong <= 20) {
                System.out.println(run + ": " + NAMES[(int) c[0]] + "(" + c[1] + ", " + c[2] + ", " + c[3] + ") answered "
                        + got + ", due is " + want);
            }
        }
        return want;
    }

    private static int between(Random random, int from, int to) {
        return from + random.nextInt(to - from + 1);
    }

    private static int odd(Random random) {
        int[] numbers = {Integer.MIN_VALUE, -102, -101, -100, -2, -1, 0, 1, 2, 3, 5, 6, 7, 16, 20, 21, 39, 40, 41, 64,
            100, 101, 1 << 16, Integer.MAX_VALUE};
        return numbers[random.nextInt(numbers.length)];
    }

    /** Every answer about the latest plan, and beyond its ends. */
    private static void askAll(RoomFills x, Model m, String run) {
        for (int what = -1; what <= 2; what++) {
            both(x, m, run, 12, what);
        }
        for (int item = -1; item <= 6; item++) {
            both(x, m, run, 10, item);
        }
        int pieces = m.told.isEmpty() ? 0 : m.latest().size();
        for (int k = -1; k <= pieces; k++) {
            for (int what = -1; what <= 3; what++) {
                both(x, m, run, 11, k, what);
            }
        }
        int tops = m.tops().size();
        for (int k = -2; k <= tops; k++) {
            for (int what = -1; what <= 2; what++) {
                both(x, m, run, 13, k, what);
            }
        }
    }

    /** How large rooms are: the slow model lists every plan, so wide walls take wide pieces. */
    private static final class Size {
        final int steps;
        final int leastWidth;
        final int mostWidth;
        final int mostItems;
        final int leastFiller;
        final int fillerSpread;

        Size(int steps, int leastWidth, int mostWidth, int mostItems, int leastFiller, int fillerSpread) {
            this.steps = steps;
            this.leastWidth = leastWidth;
            this.mostWidth = mostWidth;
            this.mostItems = mostItems;
            this.leastFiller = leastFiller;
            this.fillerSpread = fillerSpread;
        }
    }

    private static long money(Random random) {
        return random.nextInt(3) == 0 ? between(random, 0, 100000) : between(random, 0, 3);
    }

    private static void tell(RoomFills x, Model m, Random random, Size size, String run) {
        int last = Math.max(0, m.items.size() - 1);
        int a = between(random, 0, last);
        int b = between(random, 0, last);
        switch (random.nextInt(11)) {
            case 0: {
                int from = between(random, 0, m.n - 1);
                if (random.nextInt(3) == 0) {
                    both(x, m, run, 0, from, Math.min(m.n, from + between(random, 1, 3)));
                }
                break;
            }
            case 1: both(x, m, run, 1, between(random, 0, m.n - 1)); break;
            case 2:
            case 3:
                if (m.items.size() < size.mostItems) {
                    both(x, m, run, 2, between(random, size.leastWidth, size.mostWidth), money(random), money(random));
                }
                break;
            case 4: both(x, m, run, 3, a, random.nextInt(2) == 0 ? NONE : between(random, 0, 4)); break;
            case 5:
            case 6: both(x, m, run, 4, a, b, money(random)); break;
            case 7:
                if (random.nextInt(3) == 0) {
                    both(x, m, run, 5, a, b);
                }
                break;
            case 8: both(x, m, run, 6, a, random.nextInt(3) == 0 ? 1 : 0); break;
            case 9: {
                int least = between(random, size.leastFiller, size.leastFiller + 2);
                both(x, m, run, 7, least, Math.min(40, least + between(random, 0, size.fillerSpread)));
                break;
            }
            default: both(x, m, run, 14, a, random.nextInt(5) == 0 ? OFF : between(random, -1, m.n)); break;
        }
    }

    /** A call with numbers that are mostly wrong; items and fillers only where they are refused. */
    private static void tellOdd(RoomFills x, Model m, Random random, String run) {
        int a = odd(random);
        int b = odd(random);
        int name = random.nextInt(17);
        boolean grows = name == 2 && m.items.size() < 6 && a >= 1 && a <= 20
                || name == 7 && a >= 1 && a <= 40 && b >= a && b <= 40 || name == 0 && a >= 0 && b - a > 5;
        if (!grows) {
            both(x, m, run, name, a, b, odd(random));
        }
    }

    private static void placeRow(RoomFills x, Model m, Random random, String run) {
        int at = 0;
        int first = random.nextInt(6);
        for (int k = 0; k < m.items.size(); k++) {
            int item = (first + k) % m.items.size();
            at += random.nextInt(3) == 0 ? between(random, 0, 3) : 0;
            while (m.free.contains(at) && random.nextInt(8) != 0) {
                at++;
            }
            both(x, m, run, 14, item, random.nextInt(6) == 0 || at > m.n ? OFF : at);
            both(x, m, run, 15);
            both(x, m, run, 16);
            at += m.width(item);
        }
    }

    private static void placePlan(RoomFills x, Model m, String run) {
        for (int item = 0; item < m.items.size(); item++) {
            int begin = Integer.parseInt(askedAt(m, item));
            both(x, m, run, 14, item, begin == NONE ? OFF : begin);
        }
        String broken = both(x, m, run, 15);
        String worth = both(x, m, run, 16);
        if (!broken.equals("0") || !worth.equals("" + m.sum(m.latest(), 0))) {
            wrong++;
            System.out.println(run + ": the plan as a row breaks rule " + broken + " or is worth " + worth);
        }
    }

    private static void oneRoom(int seed, Size size) {
        oneRoom(seed, size, size.steps);
    }

    /** A wide door leaves so many steps, some of them at the begin, the others at the end. */
    private static void oneRoom(int seed, Size size, int open) {
        Random random = new Random(seed);
        String run = "seed " + seed + ", " + size.steps + " steps";
        RoomFills x = new RoomFills(size.steps);
        Model m = new Model(size.steps);
        if (open < size.steps) {
            int from = between(random, 0, open);
            both(x, m, run, 0, from, from + size.steps - open);
        }
        for (int k = 0; k < 24; k++) {
            tell(x, m, random, size, run);
            if (random.nextInt(4) == 0) {
                tellOdd(x, m, random, run);
            }
            if (k % 12 == 11) {
                both(x, m, run, 8);
                askAll(x, m, run);
                for (int v = 0; v < 3; v++) {
                    both(x, m, run, 9, between(random, 0, 4));
                }
                tellOdd(x, m, random, run);
                askAll(x, m, run);
                if (!m.told.isEmpty()) {
                    placePlan(x, m, run);
                }
                placeRow(x, m, random, run);
            }
        }
        both(x, m, run, 8);
        for (int v = 0; v < 17; v++) {
            both(x, m, run, 9, v < 12 ? 1 : 0);
            both(x, m, run, 12, 0);
            both(x, m, run, 12, 1);
        }
        askAll(x, m, run);
    }

    public static void main(String[] args) {
        int seed = 1;
        for (int k = 0; k < 1200; k++) {
            oneRoom(seed++, new Size(1 + k % 11, 1, 4, 6, 1, 4));
            oneRoom(seed++, new Size(8 + k % 6, 2, 5, 6, 1, 2));
        }
        for (int k = 0; k < 400; k++) {
            oneRoom(seed++, new Size(20 + k % 21, 7, 20, 6, 4, 3));
            oneRoom(seed++, new Size(36 + k % 6, 6, 9, 4, 3, 2));
            oneRoom(seed++, new Size(30 + k % 11, 1, 4, 6, 1, 4), 5 + k % 7);
        }
        System.out.println(wrong == 0 ? "all " + calls + " answers are as due" : wrong + " answers are not as due");
        if (wrong != 0) {
            System.exit(1);
        }
    }
}
