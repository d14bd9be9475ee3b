/**
 * Every number of every call, from far below its range to far above it, the last one that is allowed
 * and the first one that is not on both sides, with few and with many items, with and without a plan:
 * whether the call throws, and which of several exceptions.
 */
public final class RangesTest {
    private static final Class<?> STATE = IllegalStateException.class;
    private static final Class<?> INDEX = IndexOutOfBoundsException.class;
    private static final Class<?> ARGUMENT = IllegalArgumentException.class;
    private static final int NONE = RoomFills.NONE;

    private static final int[] NUMBERS = {
        Integer.MIN_VALUE, Integer.MIN_VALUE + 1, -(1 << 16), -102, -101, -100, -99, -41, -40, -2, -1, 0, 1, 2, 3, 4, 5,
        6, 7, 8, 9, 15, 16, 17, 19, 20, 21, 38, 39, 40, 41, 42, 99, 100, 101, 102, 1 << 16, 1 << 30,
        Integer.MAX_VALUE - 1, Integer.MAX_VALUE,
    };

    // Some of them would be allowed if they were cut to 32 bits.
    private static final long[] AMOUNTS = {
        Long.MIN_VALUE, Long.MIN_VALUE + 7, -(1L << 32), -(1L << 32) + 7, -100000, -1, 0, 1, 99999, 100000, 100001,
        Integer.MAX_VALUE, 1L << 32, (1L << 32) + 7, Long.MAX_VALUE,
    };

    private static final int[] WALLS = {1, 2, 3, 20, 39, 40};

    private interface Call {
        void make();
    }

    private static int wrong = 0;
    private static int done = 0;

    /** The order in which all promises name them: state, index, argument; null is for no exception. */
    private static Class<?> first(boolean state, boolean index, boolean argument) {
        return state ? STATE : index ? INDEX : argument ? ARGUMENT : null;
    }

    private static void due(String what, Call call, Class<?> want) {
        Class<?> got = null;
        try {
            call.make();
        } catch (RuntimeException thrown) {
            got = thrown.getClass();
        }
        done++;
        if (got != want) {
            wrong++;
            System.out.println(what + ": threw " + got + ", due is " + want);
        }
    }

    private static boolean within(long number, long least, long most) {
        return least <= number && number <= most;
    }

    private static RoomFills room(int steps, int items) {
        RoomFills x = new RoomFills(steps);
        for (int k = 0; k < items; k++) {
            x.item(1 + k, 10, 1);
        }
        return x;
    }

    private static void newObjects() {
        for (int steps : NUMBERS) {
            due("1 RoomFills(" + steps + ")", () -> new RoomFills(steps), null);
        }
    }

    private static void spans() {
        for (int steps : WALLS) {
            for (int from : NUMBERS) {
                RoomFills x = new RoomFills(steps);
                for (int to : NUMBERS) {
                    boolean isSpan = within(from, 0, steps - 1) && to > from && to <= steps;
                    due("2 of " + steps + " door(" + from + ", " + to + ")", () -> x.door(from, to),
                            first(false, false, !isSpan));
                }
            }
        }
    }

    private static void pipes() {
        for (int steps = 1; steps <= 40; steps++) {
            RoomFills x = new RoomFills(steps);
            int last = steps - 1;
            for (int at : NUMBERS) {
                due("3 of " + steps + " pipe(" + at + ")", () -> x.pipe(at), first(false, false, !within(at, 0, last)));
            }
            due("3 of " + steps + " the last one", () -> x.pipe(last), null);
            due("3 of " + steps + " one more", () -> x.pipe(last + 1), ARGUMENT);
        }
    }

    private static void items() {
        for (int width : NUMBERS) {
            for (long worth : AMOUNTS) {
                for (long cents : AMOUNTS) {
                    boolean isItem = within(width, 1, 20) && within(worth, 0, 100000) && within(cents, 0, 100000);
                    String call = "4 item(" + width + ", " + worth + ", " + cents + ")";
                    due(call, () -> new RoomFills(1).item(width, worth, cents), first(false, false, !isItem));
                }
            }
            RoomFills one = room(1, 5);
            due("4 the sixth, item(" + width + ", 0, 0)", () -> one.item(width, 0, 0),
                    first(false, false, !within(width, 1, 20)));
            RoomFills full = room(1, 6);
            for (long amount : AMOUNTS) {
                due("4 the seventh, item(" + width + ", " + amount + ", 0)", () -> full.item(width, amount, 0), STATE);
                due("4 the seventh, item(" + width + ", 0, " + amount + ")", () -> full.item(width, 0, amount), STATE);
            }
        }
    }

    private static void needs(int count) {
        for (int item : NUMBERS) {
            RoomFills x = room(40, count);
            for (int most : NUMBERS) {
                due("5 of " + count + " need(" + item + ", " + most + ")", () -> x.need(item, most),
                        first(false, !within(item, 0, count - 1), !within(most, NONE, 40)));
            }
        }
    }

    private static void pairs(int count) {
        for (int a : NUMBERS) {
            for (int b : NUMBERS) {
                RoomFills x = room(40, count);
                boolean isNone = !within(a, 0, count - 1) || !within(b, 0, count - 1);
                for (long worth : AMOUNTS) {
                    due("6 of " + count + " near(" + a + ", " + b + ", " + worth + ")", () -> x.near(a, b, worth),
                            first(false, isNone, a == b || !within(worth, 0, 100000)));
                }
                due("7 of " + count + " bar(" + a + ", " + b + ")", () -> x.bar(a, b), first(false, isNone, a == b));
            }
        }
    }

    private static void musts(int count) {
        RoomFills x = room(40, count);
        for (int item : NUMBERS) {
            Class<?> want = first(false, !within(item, 0, count - 1), false);
            due("8 of " + count + " must(" + item + ", true)", () -> x.must(item, true), want);
            due("8 of " + count + " must(" + item + ", false)", () -> x.must(item, false), want);
        }
    }

    private static void fillers() {
        for (int least : NUMBERS) {
            RoomFills x = new RoomFills(1);
            for (int most : NUMBERS) {
                boolean isRange = within(least, 1, 40) && within(most, least, 40);
                due("9 filler(" + least + ", " + most + ")", () -> x.filler(least, most), first(false, false, !isRange));
            }
        }
    }

    private static void variants(String how, RoomFills x, boolean isRefused) {
        for (int unlike : NUMBERS) {
            if (isRefused || !within(unlike, 0, 6)) {
                due("11 " + how + " variant(" + unlike + ")", () -> x.variant(unlike),
                        first(isRefused, false, !within(unlike, 0, 6)));
            }
        }
        for (int unlike = 0; unlike <= 6; unlike++) {
            int some = unlike;
            due("11 " + how + " variant(" + some + ")", () -> x.variant(some), first(isRefused, false, false));
        }
    }

    /** All that asks about a plan; an object is asked so often only that it stays below 512 calls. */
    private static void asks(String how, RoomFills x, int items, int pieces, int tops) {
        boolean noPlan = pieces == NONE;
        for (int number : NUMBERS) {
            due("12 " + how + " at(" + number + ")", () -> x.at(number),
                    first(noPlan, !within(number, 0, items - 1), false));
            due("14 " + how + " worth(" + number + ")", () -> x.worth(number),
                    first(noPlan, !within(number, 0, 1), false));
        }
        for (int k : new int[] {Integer.MIN_VALUE, -2, -1, 0, pieces - 1, pieces, pieces + 1, 40, Integer.MAX_VALUE}) {
            for (int what : new int[] {Integer.MIN_VALUE, -2, -1, 0, 1, 2, 3, 4, Integer.MAX_VALUE}) {
                due("13 " + how + " plan(" + k + ", " + what + ")", () -> x.plan(k, what),
                        first(noPlan, !within(k, 0, pieces - 1), !within(what, 0, 2)));
            }
        }
        for (int k : new int[] {Integer.MIN_VALUE, -3, -2, -1, 0, tops - 1, tops, tops + 1, 40, Integer.MAX_VALUE}) {
            for (int what : new int[] {Integer.MIN_VALUE, -2, -1, 0, 1, 2, 3, Integer.MAX_VALUE}) {
                due("15 " + how + " top(" + k + ", " + what + ")", () -> x.top(k, what),
                        first(noPlan, !within(k, NONE, tops - 1), !within(what, 0, 1)));
            }
        }
    }

    private static void plans() {
        RoomFills fresh = room(20, 3);
        variants("before a run", fresh, true);
        asks("before a run", fresh, 3, NONE, 0);
        RoomFills none = room(20, 3);
        none.run();
        variants("no plan found", none, true);
        asks("no plan found", none, 3, NONE, 0);
        RoomFills empty = room(20, 0);
        empty.door(0, 20);
        empty.run();
        asks("no pieces", empty, 0, 0, 0);
        variants("no pieces", empty, false);
        RoomFills some = room(20, 3);
        some.filler(1, 20);
        some.door(6, 8);
        some.run();
        asks("a plan", some, 3, 4, 2);
        variants("a plan", some, false);
        RoomFills old = room(20, 3);
        old.filler(1, 20);
        old.run();
        old.pipe(0);
        variants("something was told", old, true);
        asks("something was told", old, 3, NONE, 0);
    }

    private static void fullPlans() {
        RoomFills x = room(21, 6);
        x.run();
        for (int told = 1; told < 16; told++) {
            int some = told + 1;
            due("11 the one that makes " + some, () -> x.variant(0), null);
        }
        variants("16 are told", x, true);
        asks("16 are told", x, 6, 6, 1);
    }

    private static void places(int count) {
        for (int item : NUMBERS) {
            RoomFills x = room(40, count);
            for (int at : NUMBERS) {
                due("16 of " + count + " place(" + item + ", " + at + ")", () -> x.place(item, at),
                        first(false, !within(item, 0, count - 1), !within(at, -101, 100)));
            }
        }
    }

    private static void neverThrows() {
        for (int steps : NUMBERS) {
            for (int count : new int[] {0, 1, 6}) {
                RoomFills x = room(steps, count);
                String how = " of " + count + ", RoomFills(" + steps + ")";
                due("10 run()" + how, () -> x.run(), null);
                due("17 check()" + how, () -> x.check(), null);
                due("18 row()" + how, () -> x.row(), null);
            }
        }
    }

    public static void main(String[] args) {
        newObjects();
        spans();
        pipes();
        items();
        fillers();
        for (int count : new int[] {0, 1, 2, 3, 5, 6}) {
            needs(count);
            pairs(count);
            musts(count);
            places(count);
        }
        plans();
        fullPlans();
        neverThrows();
        System.out.println(wrong == 0 ? "all " + done + " calls throw as due" : wrong + " calls do not throw as due");
        if (wrong != 0) {
            System.exit(1);
        }
    }
}
