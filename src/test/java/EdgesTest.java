/**
 * A test of its own for each sentence of the document that names a boundary case: what comes out on
 * both sides of the boundary, with nothing told yet, and with as much as there may be.
 */
public final class EdgesTest {
    private static final Class<?> STATE = IllegalStateException.class;
    private static final Class<?> INDEX = IndexOutOfBoundsException.class;
    private static final Class<?> ARGUMENT = IllegalArgumentException.class;
    private static final int NONE = RoomFills.NONE;
    private static final int OFF = NONE - 100;

    private interface Call {
        Object answer();
    }

    private static int wrong = 0;
    private static int done = 0;

    private static void due(String what, Call call, Object want) {
        Object got;
        try {
            got = call.answer();
        } catch (RuntimeException thrown) {
            got = thrown.getClass();
        }
        done++;
        boolean same = got instanceof Number && want instanceof Number
                ? ((Number) got).longValue() == ((Number) want).longValue()
                : got.equals(want);
        if (!same) {
            wrong++;
            System.out.println(what + ": got " + got + ", due is " + want);
        }
    }

    private static String pieces(RoomFills x, int count) {
        if (count == NONE) {
            return "none";
        }
        StringBuilder text = new StringBuilder();
        for (int k = 0; k < count; k++) {
            int item = x.plan(k, 0);
            text.append(k == 0 ? "" : " ").append(item == NONE ? "f" : "" + item);
            text.append("@").append(x.plan(k, 1)).append("+").append(x.plan(k, 2));
        }
        return text.toString();
    }

    private static String best(RoomFills x) {
        return pieces(x, x.run());
    }

    private static String other(RoomFills x, int unlike) {
        return pieces(x, x.variant(unlike));
    }

    private static String tops(RoomFills x) {
        StringBuilder text = new StringBuilder();
        for (int k = 0; k < x.top(NONE, 0); k++) {
            text.append(k == 0 ? "" : " ").append(x.top(k, 0)).append("+").append(x.top(k, 1));
        }
        return text.toString();
    }

    /** A wall, fillers if most is above 0, and items of worth 10 and 1 cent. */
    private static RoomFills room(int steps, int least, int most, int... widths) {
        RoomFills x = new RoomFills(steps);
        if (most > 0) {
            x.filler(least, most);
        }
        for (int width : widths) {
            x.item(width, 10, 1);
        }
        return x;
    }

    // ---- Promise 1 ----

    /** "The nearest of 1 .. 40." */
    private static void nearestSteps() {
        for (int told = -3; told <= 44; told++) {
            int steps = told;
            int nearest = told < 1 ? 1 : told > 40 ? 40 : told;
            due("1 all of RoomFills(" + steps + ")", () -> best(room(steps, 1, 40)), "f@0+" + nearest);
        }
        due("1 the least int", () -> best(room(Integer.MIN_VALUE, 1, 40)), "f@0+1");
        due("1 the greatest int", () -> best(room(Integer.MAX_VALUE, 1, 40)), "f@0+40");
    }

    private static void nothingToldYet() {
        for (int steps = 1; steps <= 40; steps++) {
            RoomFills x = new RoomFills(steps);
            due("10 nothing told, " + steps + " steps", () -> x.run(), NONE);
            due("17 nothing told, " + steps + " steps", () -> x.check(), 7);
            due("18 nothing told, " + steps + " steps", () -> x.row(), 0);
            due("12 nothing told", () -> x.at(0), STATE);
            due("13 nothing told", () -> x.plan(0, 0), STATE);
            due("14 nothing told", () -> x.worth(0), STATE);
            due("15 nothing told", () -> x.top(NONE, 0), STATE);
            due("11 nothing told", () -> x.variant(0), STATE);
        }
        due("5 no item", () -> new RoomFills(9).need(0, 0), INDEX);
        due("6 no items", () -> new RoomFills(9).near(0, 1, 0), INDEX);
        due("7 no items", () -> new RoomFills(9).bar(0, 1), INDEX);
        due("8 no item", () -> new RoomFills(9).must(0, false), INDEX);
        due("16 no item", () -> new RoomFills(9).place(0, OFF), INDEX);
    }

    // ---- Promise 2 ----

    /** "FREE steps from one on to another one (not itself)": seen by what is left for the tops. */
    private static void eachSpan() {
        int steps = 6;
        for (int a = 0; a < steps; a++) {
            for (int b = a + 1; b <= steps; b++) {
                RoomFills x = room(steps, 1, steps);
                int from = a;
                int to = b;
                String before = from > 0 ? "0+" + from : "";
                String behind = to < steps ? to + "+" + (steps - to) : "";
                String gap = before.isEmpty() || behind.isEmpty() ? "" : " ";
                due("2 new " + from + " .. " + to, () -> x.door(from, to), true);
                x.run();
                due("2 left by " + from + " .. " + to, () -> tops(x), before + gap + behind);
            }
        }
    }

    /** "Whether some were not": only a span inside the one that is there answers false. */
    private static void spanAgain() {
        for (int from = 0; from < 8; from++) {
            for (int to = from + 1; to <= 8; to++) {
                RoomFills x = new RoomFills(8);
                x.door(2, 5);
                int a = from;
                int b = to;
                due("2 2 .. 5, then " + a + " .. " + b, () -> x.door(a, b), a < 2 || b > 5);
                due("2 2 .. 5, then twice " + a + " .. " + b, () -> x.door(a, b), false);
            }
        }
        RoomFills parts = new RoomFills(40);
        parts.door(0, 20);
        parts.door(21, 40);
        due("2 one step is left", () -> parts.door(0, 40), true);
        due("2 none is left", () -> parts.door(0, 40), false);
        due("2 the wall of one step", () -> new RoomFills(1).door(0, 1), true);
    }

    // ---- Promise 3 ----

    /** "PIPES, 8 at most"; "whether there was room, and none at that step". */
    private static void eightPipes() {
        RoomFills x = room(40, 1, 40, 1);
        x.need(0, 0);
        for (int k = 0; k < 8; k++) {
            int at = 2 * k;
            due("3 pipe " + k, () -> x.pipe(at), true);
            due("3 pipe " + k + " again", () -> x.pipe(at), false);
        }
        due("3 no room", () -> x.pipe(39), false);
        due("3 no room at the first's step", () -> x.pipe(0), false);
        x.place(0, 39);
        due("3 the ninth is not there", () -> x.check(), 5);
        x.place(0, 14);
        due("3 the eighth is there", () -> x.check(), 0);
        x.place(0, 0);
        due("3 the first is there", () -> x.check(), 0);
        RoomFills y = room(40, 1, 40, 1);
        due("3 free steps take pipes too", () -> y.door(3, 4) && y.pipe(3), true);
        RoomFills one = new RoomFills(1);
        due("3 the wall of one step", () -> one.pipe(0), true);
        due("3 its one step again", () -> one.pipe(0), false);
    }

    // ---- Promise 4 ----

    /** "ITEMS 0 .. 5 (as they are told)"; "there are 6". */
    private static void sixItems() {
        RoomFills x = new RoomFills(40);
        for (int k = 0; k < 6; k++) {
            int number = k;
            due("4 beyond the last, " + k, () -> x.must(number, true), INDEX);
            due("4 item " + k, () -> x.item(1 + number, 1L << number, number), number);
            due("4 the last, " + k, () -> x.must(number, false), false);
        }
        due("4 one more", () -> x.item(1, 1, 1), STATE);
        due("4 item 6 is not", () -> x.must(6, true), INDEX);
        x.door(21, 40);
        due("4 all six", () -> best(x), "0@0+1 1@1+2 2@3+3 3@6+4 4@10+5 5@15+6");
        due("4 their worth", () -> x.worth(0), 63);
        due("4 their cents", () -> x.worth(1), 15);
    }

    /** "width is not 1 .. 20, worth not 0 .. 100000, or cents not 0 .. 100000". */
    private static void widestItem() {
        RoomFills x = new RoomFills(20);
        due("4 widest and dearest", () -> x.item(20, 100000, 100000), 0);
        due("4 it fills the wall", () -> best(x), "0@0+20");
        due("4 all its worth", () -> x.worth(0), 100000);
        due("4 all its cents", () -> x.worth(1), 100000);
        RoomFills y = new RoomFills(1);
        due("4 narrowest and cheapest", () -> y.item(1, 0, 0), 0);
        due("4 it fills the step", () -> best(y), "0@0+1");
        due("4 no worth", () -> y.worth(0), 0);
        due("4 no cents", () -> y.worth(1), 0);
        due("4 a step too wide", () -> best(room(19, 1, 40, 20)), "f@0+19");
    }

    // ---- Promise 5 ----

    /** "One whose step is at most so many from one of their own steps (0: on it)". */
    private static void needReaches() {
        for (int away = 0; away < 40; away++) {
            RoomFills behind = room(40, 1, 40, 1);
            behind.place(0, 0);
            behind.pipe(away);
            RoomFills before = room(40, 1, 40, 1);
            before.place(0, 39);
            before.pipe(39 - away);
            for (int most = 0; most <= 40; most++) {
                behind.need(0, most);
                before.need(0, most);
                int want = away <= most ? 0 : 5;
                due("5 a pipe " + away + " behind, most " + most, () -> behind.check(), want);
                due("5 a pipe " + away + " before, most " + most, () -> before.check(), want);
            }
        }
    }

    private static void needFromEachOwnStep() {
        for (int at = 0; at < 20; at++) {
            RoomFills x = room(20, 1, 20, 4);
            x.place(0, 8);
            x.pipe(at);
            x.need(0, 0);
            due("5 on its steps, pipe " + at, () -> x.check(), at >= 8 && at <= 11 ? 0 : 5);
            x.need(0, 3);
            due("5 at most 3 away, pipe " + at, () -> x.check(), at >= 5 && at <= 14 ? 0 : 5);
        }
    }

    /** The same in a plan, where the wall leaves the item one place alone. */
    private static void needInAPlan() {
        for (int away = 0; away <= 10; away++) {
            for (int most = NONE; most <= 11; most++) {
                RoomFills x = room(14, 0, 0, 4);
                x.door(4, 14);
                x.pipe(3 + away);
                x.need(0, most);
                boolean isMet = most == NONE || away <= most;
                due("5 a pipe " + away + " away, most " + most, () -> best(x), isMet ? "0@0+4" : "none");
            }
        }
    }

    /** "NONE: it does not"; 40 is not enough where there is no pipe. */
    private static void needWithoutPipes() {
        RoomFills x = room(4, 0, 0, 4);
        due("5 not at first", () -> x.need(0, NONE), false);
        x.place(0, 0);
        due("5 none, no pipe", () -> best(x) + " " + x.check(), "0@0+4 0");
        due("5 40", () -> x.need(0, 40), true);
        due("5 40, no pipe", () -> best(x) + " " + x.check(), "none 5");
        due("5 40 again", () -> x.need(0, 40), false);
        due("5 39", () -> x.need(0, 39), true);
        due("5 NONE", () -> x.need(0, NONE), true);
        due("5 NONE, no pipe", () -> best(x) + " " + x.check(), "0@0+4 0");
    }

    // ---- Promise 6 ----

    /** "NEAR worth (0 at first)", of each pair, told either way round. */
    private static void nearOfEachPair() {
        for (int a = 0; a < 6; a++) {
            for (int b = 0; b < 6; b++) {
                if (a != b) {
                    nearOfPair(a, b);
                }
            }
        }
    }

    private static void nearOfPair(int a, int b) {
        RoomFills x = room(2, 0, 0, 1, 1, 1, 1, 1, 1);
        String pair = a + " and " + b;
        due("6 0 at first, " + pair, () -> x.near(a, b, 0), false);
        due("6 most, " + pair, () -> x.near(a, b, 100000), true);
        due("6 told already, " + pair, () -> x.near(b, a, 100000), false);
        int low = Math.min(a, b);
        int high = Math.max(a, b);
        due("6 they touch, " + pair, () -> best(x), low + "@0+1 " + high + "@1+1");
        due("6 it counts once, " + pair, () -> x.worth(0), 100020);
        due("6 0 again, " + pair, () -> x.near(b, a, 0), true);
        due("6 the others touch then, " + pair, () -> best(x) + " " + x.worth(0), "0@0+1 1@1+1 20");
    }

    /** "Which counts if they touch (one begins where the other ends)". */
    private static void nearAtEachDistance() {
        for (int at = -100; at <= 100; at++) {
            RoomFills x = room(40, 1, 40, 3, 5);
            x.near(0, 1, 7);
            x.place(0, 10);
            x.place(1, at);
            due("6 3 steps at 10, 5 at " + at, () -> x.row(), at == 5 || at == 13 ? 27 : 20);
        }
    }

    // ---- Promise 7 ----

    /** "They must not touch", in a row and in a plan, told either way round. */
    private static void barAtEachDistance() {
        for (int at = 0; at <= 35; at++) {
            RoomFills x = room(40, 1, 40, 3, 5);
            x.bar(at % 2, 1 - at % 2);
            x.place(0, 10);
            x.place(1, at);
            boolean doShare = at > 5 && at < 13;
            due("7 3 steps at 10, 5 at " + at, () -> x.check(), doShare ? 2 : at == 5 || at == 13 ? 6 : 0);
        }
        due("7 no step between", () -> best(barredPair(4)), "0@0+2 f@2+2");
        due("7 one step between", () -> best(barredPair(5)), "0@0+2 f@2+1 1@3+2");
        RoomFills doored = barredPair(5);
        doored.door(2, 3);
        due("7 a free step between", () -> best(doored), "0@0+2 1@3+2");
        RoomFills others = room(3, 0, 0, 1, 1, 1);
        others.bar(2, 0);
        due("7 another item between", () -> best(others), "0@0+1 1@1+1 2@2+1");
        others.bar(0, 1);
        due("7 one is barred from both", () -> best(others), "none");
    }

    private static RoomFills barredPair(int steps) {
        RoomFills x = room(steps, 1, 40, 2, 2);
        x.bar(0, 1);
        return x;
    }

    private static void barOfEachPair() {
        for (int a = 0; a < 6; a++) {
            for (int b = 0; b < 6; b++) {
                if (a != b) {
                    barOfPair(a, b);
                }
            }
        }
    }

    private static void barOfPair(int a, int b) {
        RoomFills x = room(2, 0, 0, 1, 1, 1, 1, 1, 1);
        x.must(a, true);
        x.must(b, true);
        String pair = a + " and " + b;
        due("7 not at first, " + pair, () -> x.run(), 2);
        due("7 new, " + pair, () -> x.bar(a, b), true);
        due("7 told already, " + pair, () -> x.bar(b, a), false);
        due("7 no room but beside, " + pair, () -> x.run(), NONE);
    }

    // ---- Promise 8 ----

    private static void eachMust() {
        for (int k = 0; k < 6; k++) {
            RoomFills x = room(1, 1, 1, 1, 1, 1, 1, 1, 1);
            int item = k;
            due("8 not at first, " + k, () -> x.must(item, false), false);
            due("8 on, " + k, () -> x.must(item, true), true);
            due("8 on already, " + k, () -> x.must(item, true), false);
            due("8 it is there, " + k, () -> best(x), item + "@0+1");
            due("8 the row is without it, " + k, () -> x.check(), 4);
            due("8 off, " + k, () -> x.must(item, false), true);
            due("8 off already, " + k, () -> x.must(item, false), false);
            due("8 the first is there, " + k, () -> best(x), "0@0+1");
        }
        RoomFills all = room(6, 1, 6, 1, 1, 1, 1, 1, 1);
        RoomFills few = room(5, 1, 6, 1, 1, 1, 1, 1, 1);
        for (int k = 0; k < 6; k++) {
            all.must(k, true);
            few.must(k, true);
        }
        due("8 room for all six", () -> all.run(), 6);
        due("8 room for five", () -> few.run(), NONE);
        RoomFills wide = room(3, 1, 3, 4);
        wide.must(0, true);
        due("8 wider than the wall", () -> wide.run(), NONE);
    }

    // ---- Promise 9 ----

    /** "FILLERS are LEAST .. MOST steps wide", in a plan and in a row. */
    private static void eachFillerWidth() {
        int[][] ranges = {{1, 1}, {1, 2}, {2, 2}, {2, 3}, {5, 9}, {20, 21}, {39, 39}, {39, 40}, {40, 40}, {1, 40}};
        for (int[] range : ranges) {
            for (int steps = 1; steps <= 40; steps++) {
                RoomFills x = room(steps, range[0], range[1]);
                boolean isWidth = steps >= range[0] && steps <= range[1];
                String how = range[0] + " .. " + range[1] + ", " + steps + " steps";
                String whole = "f@0+" + steps;
                due("9 a plan, " + how, () -> best(x), isWidth ? whole : "none");
                due("9 a row, " + how, () -> x.check(), isWidth ? 0 : 7);
            }
        }
    }

    /** "Whether one is another one". */
    private static void fillerAgain() {
        RoomFills x = new RoomFills(9);
        due("9 the first", () -> x.filler(1, 1), true);
        due("9 both the same", () -> x.filler(1, 1), false);
        due("9 most alone", () -> x.filler(1, 40), true);
        due("9 least alone", () -> x.filler(40, 40), true);
        due("9 both", () -> x.filler(2, 3), true);
        due("9 both the same again", () -> x.filler(2, 3), false);
        due("9 most is least", () -> x.filler(2, 2), true);
        due("9 most below least", () -> x.filler(2, 1), ARGUMENT);
        due("9 still the same", () -> x.filler(2, 2), false);
    }

    /** "None at first: no width is one then". */
    private static void noFillerAtFirst() {
        for (int steps = 2; steps <= 40; steps++) {
            int width = Math.min(20, steps - 1);
            RoomFills x = room(steps, 0, 0, width);
            due("9 none at first, " + steps + " steps", () -> x.run(), NONE);
            x.place(0, 0);
            due("9 none at first, a row, " + steps + " steps", () -> x.check(), 7);
            x.door(width, steps);
            due("9 none is wanted, " + steps + " steps", () -> best(x), "0@0+" + width);
            due("9 none is wanted, a row, " + steps + " steps", () -> x.check(), 0);
        }
    }

    // ---- Promise 10 ----

    /** "From step 0 to the end: where a FREE step comes, behind all FREE steps that follow it". */
    private static void freeSteps() {
        RoomFills begin = room(5, 0, 0, 2);
        begin.door(0, 3);
        due("10 free at the begin", () -> best(begin), "0@3+2");
        RoomFills end = room(5, 0, 0, 2);
        end.door(2, 5);
        due("10 free at the end", () -> best(end), "0@0+2");
        RoomFills both = room(5, 0, 0, 2);
        both.door(0, 2);
        both.door(4, 5);
        due("10 free at both", () -> best(both), "0@2+2");
        for (int steps = 1; steps <= 40; steps++) {
            RoomFills all = room(steps, 0, 0, 1);
            all.door(0, steps);
            int some = steps;
            due("10 all is free, " + some, () -> all.run(), 0);
            due("14 no worth, " + some, () -> all.worth(0) + all.worth(1), 0);
            due("15 no top, " + some, () -> all.top(NONE, 0), 0);
            due("12 nothing is in it, " + some, () -> all.at(0), NONE);
            due("17 nothing is wanted, " + some, () -> all.check(), 0);
        }
        RoomFills must = room(3, 1, 3, 1);
        must.door(0, 3);
        must.must(0, true);
        due("10 all is free, but one must", () -> must.run(), NONE);
    }

    /** "All of whose steps are on the wall and not FREE". */
    private static void betweenDoors() {
        for (int open = 1; open <= 8; open++) {
            RoomFills x = room(12, 1, 12, 4);
            x.door(0, 2);
            x.door(2 + open, 12);
            String want = open < 4 ? "f@2+" + open : open == 4 ? "0@2+4" : "0@2+4 f@6+" + (open - 4);
            due("10 4 steps in " + open, () -> best(x), want);
            RoomFills y = room(12, 4, 4);
            y.door(0, 2);
            y.door(2 + open, 12);
            due("10 a filler of 4 in " + open, () -> best(y), open == 4 ? "f@2+4" : "none");
        }
    }

    /** "An ITEM (each once at most) or a FILLER (not just behind another one)". */
    private static void onceAndNotTwoFillers() {
        due("10 one item, room for two", () -> best(room(4, 0, 0, 2)), "none");
        due("10 the same with fillers", () -> best(room(4, 2, 2, 2)), "0@0+2 f@2+2");
        due("10 two fillers would do", () -> best(room(4, 2, 2)), "none");
        due("10 three would do", () -> best(room(3, 1, 1)), "none");
        due("10 an item parts them", () -> best(room(3, 1, 1, 1)), "f@0+1 0@1+1 f@2+1");
        RoomFills door = room(5, 2, 2);
        door.door(2, 3);
        due("10 a free step parts them", () -> best(door), "f@0+2 f@3+2");
    }

    /** "BEST is the greatest WORTH; of several the fewest CENTS": one more or less decides. */
    private static void worthThenCents() {
        RoomFills x = new RoomFills(2);
        x.item(2, 99999, 0);
        x.item(2, 100000, 100000);
        due("10 one more worth, all cents", () -> best(x), "1@0+2");
        RoomFills y = new RoomFills(2);
        y.item(2, 5, 100000);
        y.item(2, 5, 99999);
        due("10 the same worth, one cent fewer", () -> best(y), "1@0+2");
        RoomFills z = new RoomFills(2);
        z.item(2, 5, 5);
        z.item(2, 5, 5);
        due("10 the same worth and cents", () -> best(z), "0@0+2");
        RoomFills near = room(2, 1, 2, 1, 1);
        near.item(2, 21, 9);
        due("10 one more than two", () -> best(near), "2@0+2");
        near.near(0, 1, 1);
        due("10 near makes it even, fewer cents", () -> best(near), "0@0+1 1@1+1");
        RoomFills zero = new RoomFills(3);
        zero.filler(1, 3);
        zero.item(1, 0, 1);
        due("10 worth 0, a cent", () -> best(zero), "f@0+3");
        zero.item(1, 0, 0);
        due("10 worth 0, no cent", () -> best(zero), "1@0+1 f@1+2");
    }

    /** "An ITEM of a lesser number, an ITEM before a FILLER, a shorter FILLER", from the begin on. */
    private static void thenFromTheBegin() {
        due("10 lesser numbers first", () -> best(room(6, 0, 0, 1, 1, 1, 1, 1, 1)),
                "0@0+1 1@1+1 2@2+1 3@3+1 4@4+1 5@5+1");
        due("10 the item first", () -> best(room(3, 1, 2, 1)), "0@0+1 f@1+2");
        due("10 the shorter one first", () -> best(room(4, 1, 2, 1)), "f@0+1 0@1+1 f@2+2");
        due("10 the shortest of three", () -> best(room(9, 2, 5, 2)), "f@0+2 0@2+2 f@4+5");
        due("10 lesser numbers, and a later set", () -> best(room(3, 1, 1, 3, 2, 1)), "1@0+2 2@2+1");
        due("10 all go on alike but the last", () -> best(room(3, 0, 0, 2, 1, 1)), "0@0+2 1@2+1");
        RoomFills later = room(5, 1, 1, 2, 2);
        later.door(2, 3);
        later.must(1, true);
        due("10 the lesser one still goes first", () -> best(later), "0@0+2 1@3+2");
    }

    /** As many pieces as there may be: all items, and fillers that nothing joins. */
    private static void mostPieces() {
        RoomFills x = room(40, 1, 1, 1, 1, 1, 1, 1, 1);
        for (int step = 13; step < 40; step += 2) {
            x.door(step, step + 1);
        }
        due("10 pieces", () -> x.run(), 26);
        due("15 tops", () -> x.top(NONE, 0), 14);
        due("15 the first", () -> x.top(0, 0) + "+" + x.top(0, 1), "0+13");
        due("15 the last", () -> x.top(13, 0) + "+" + x.top(13, 1), "38+1");
        due("15 one more", () -> x.top(14, 0), INDEX);
        due("13 the last", () -> x.plan(25, 0) + "@" + x.plan(25, 1) + "+" + x.plan(25, 2), "-1@38+1");
        due("13 one more", () -> x.plan(26, 0), INDEX);
        for (int k = 0; k < 6; k++) {
            int item = k;
            due("12 item " + k, () -> x.at(item), 2 * item + 1);
        }
    }

    // ---- Promise 11 ----

    /** "Differ in at least so many ITEMS (in the one and not in the other)": 0 .. 6. */
    private static void eachUnlike() {
        String[] want = {
            "0@0+1 1@1+1 2@2+1 3@3+1 4@4+1 5@5+1",
            "0@0+1 1@1+1 2@2+1 3@3+1 4@4+1 f@5+1",
            "0@0+1 1@1+1 2@2+1 3@3+1 f@4+2",
            "0@0+1 1@1+1 2@2+1 f@3+3",
            "0@0+1 1@1+1 f@2+4",
            "0@0+1 f@1+5",
            "f@0+6",
        };
        for (int k = 0; k <= 6; k++) {
            RoomFills x = room(6, 1, 6, 1, 1, 1, 1, 1, 1);
            x.run();
            int unlike = k;
            due("11 unlike " + k, () -> other(x, unlike), want[k]);
        }
    }

    /** An item that goes and another one that comes are two. */
    private static void goneAndNew() {
        RoomFills x = room(2, 0, 0, 2, 2, 2);
        due("11 the best", () -> best(x), "0@0+2");
        due("11 three are too many", () -> other(x, 3), "none");
        due("11 two", () -> other(x, 2), "1@0+2");
        due("11 two from each told one", () -> other(x, 2), "2@0+2");
        due("11 none is left", () -> other(x, 1), "none");
        due("11 0 is like all", () -> other(x, 0), "0@0+2");
        RoomFills y = room(2, 2, 2, 2, 2);
        y.run();
        due("11 one is fewer than two", () -> other(y, 1), "1@0+2");
        due("11 the filler, one from each", () -> other(y, 1), "f@0+2");
    }

    /** "16 are TOLD": what answers NONE is not one of them, and a run() begins anew. */
    private static void sixteenTold() {
        RoomFills x = room(4, 1, 4, 1, 1, 1, 1, 1);
        x.run();
        for (int told = 1; told < 16; told++) {
            String how = told + " are told";
            due("11 too unlike, " + how, () -> x.variant(6), NONE);
            due("11 another one, " + how, () -> x.variant(1) != NONE, true);
        }
        String sixteenth = pieces(x, 2);
        due("11 the seventeenth", () -> x.variant(0), STATE);
        due("11 the seventeenth, too unlike", () -> x.variant(6), STATE);
        due("11 the sixteenth is still the latest", () -> pieces(x, 2), sixteenth);
        due("11 a run begins anew", () -> x.run() != NONE && x.variant(0) != NONE, true);
        RoomFills y = room(4, 1, 4, 1, 1, 1, 1);
        y.run();
        for (int told = 1; told < 16; told++) {
            y.variant(1);
        }
        due("11 all sixteen sets are told", () -> y.variant(1), STATE);
        RoomFills z = room(2, 0, 0, 2);
        z.run();
        due("11 none, again and again", () -> z.variant(1) + z.variant(1) + z.variant(1), 3 * NONE);
        for (int told = 1; told < 16; told++) {
            due("11 like the first, " + told, () -> z.variant(0), 1);
        }
        due("11 alike ones are told too", () -> z.variant(0), STATE);
    }

    /** "NONE if there is none (then the plan before is still told)". */
    private static void noVariant() {
        RoomFills x = room(5, 1, 5, 2, 2);
        x.run();
        x.variant(1);
        due("11 none", () -> x.variant(4), NONE);
        due("11 its pieces are still there", () -> pieces(x, 2), "0@0+2 f@2+3");
        due("11 no piece more", () -> x.plan(2, 0), INDEX);
        due("11 its worth", () -> x.worth(0), 10);
        due("11 its cents", () -> x.worth(1), 1);
        due("11 its items", () -> x.at(0) + " " + x.at(1), "0 -1");
        due("11 its top", () -> tops(x), "0+5");
        due("11 it still counts as told", () -> other(x, 1), "1@0+2 f@2+3");
    }

    // ---- Promise 15 ----

    /** "That touch, one behind the other, as many as do, are a TOP". */
    private static void topsAtDoors() {
        for (int door = 0; door < 6; door++) {
            RoomFills x = room(6, 1, 6, 1, 2);
            x.door(door, door + 1);
            x.run();
            String want = door == 0 ? "1+5" : door == 5 ? "0+5" : "0+" + door + " " + (door + 1) + "+" + (5 - door);
            due("15 a door at " + door, () -> tops(x), want);
        }
        RoomFills none = room(6, 1, 6, 1, 2);
        none.run();
        due("15 no door", () -> tops(none), "0+6");
        due("15 three pieces in one", () -> none.run() + " " + none.top(NONE, 1), "3 1");
    }

    // ---- Promise 16 ----

    /** "Put at a step (perhaps beyond the wall), or (NONE - 100) taken off: whether that is another one". */
    private static void eachPlace() {
        RoomFills x = room(3, 1, 3, 1, 1, 1, 1, 1, 1);
        for (int k = 0; k < 6; k++) {
            int item = k;
            due("16 not at first, " + k, () -> x.place(item, OFF), false);
        }
        RoomFills y = room(3, 1, 3, 1);
        for (int at = -100; at <= 100; at++) {
            int step = at;
            due("16 at " + at, () -> y.place(0, step), true);
            due("16 at " + at + " already", () -> y.place(0, step), false);
        }
        due("16 off", () -> y.place(0, OFF), true);
        due("16 off already", () -> y.place(0, OFF), false);
        due("16 nothing is put", () -> y.row(), 0);
        due("16 beyond -100", () -> y.place(0, OFF - 1), ARGUMENT);
        due("16 beyond 100", () -> y.place(0, 101), ARGUMENT);
        due("16 still off", () -> y.place(0, OFF), false);
    }

    /** One that is off has no end: nothing touches it or shares a step with it. */
    private static void offIsNoStep() {
        RoomFills x = room(3, 1, 3, 1, 1, 20);
        x.near(0, 1, 5);
        x.near(0, 2, 7);
        x.bar(0, 1);
        x.need(1, 0);
        x.place(0, -100);
        due("16 one at -100 alone", () -> x.row(), 10);
        x.place(1, -99);
        due("16 one at -99 touches it", () -> x.row(), 25);
        x.place(0, OFF);
        x.place(1, OFF);
        due("16 all are off", () -> x.row() + " " + x.check(), "0 0");
    }

    // ---- Promise 17 ----

    /** Each choice of rules is broken at once: the first of them is told. */
    private static void firstRule() {
        for (int broken = 0; broken < 128; broken++) {
            for (int gap = 0; gap < 2; gap++) {
                RoomFills x = brokenRow(broken, gap == 0);
                int first = 1;
                while (first <= 7 && (broken & 1 << first - 1) == 0) {
                    first++;
                }
                due("17 rules " + Integer.toBinaryString(broken), () -> x.check(), first == 8 ? 0 : first);
            }
        }
    }

    private static RoomFills brokenRow(int broken, boolean isGapShort) {
        RoomFills x = room(40, 4, 16, 2, 2, 2, 2, 2, 2);
        x.door(10, 12);
        x.pipe(20);
        x.need(5, 0);
        x.must(4, true);
        x.place(0, isBroken(broken, 1) ? 39 : 38);
        x.place(1, 0);
        x.place(2, isBroken(broken, 2) ? 1 : 2);
        x.place(3, isBroken(broken, 3) ? 11 : 12);
        x.place(4, isBroken(broken, 4) ? OFF : 14);
        x.place(5, isBroken(broken, 5) ? 21 : 20);
        if (isBroken(broken, 6)) {
            x.bar(2, 1);
        }
        if (isBroken(broken, 7)) {
            x.filler(isGapShort ? 5 : 4, isGapShort ? 16 : 15);
        }
        return x;
    }

    private static boolean isBroken(int broken, int rule) {
        return (broken & 1 << rule - 1) != 0;
    }

    /** 1: "an ITEM that is put has a step that is not on the wall". */
    private static void onTheWall() {
        for (int steps : new int[] {1, 19, 20, 21, 40}) {
            for (int width : new int[] {1, 2, 20}) {
                RoomFills x = room(steps, 1, 40, width);
                for (int at = -100; at <= 100; at++) {
                    x.place(0, at);
                    boolean isOn = at >= 0 && at + width <= steps;
                    due("17 " + width + " at " + at + " of " + steps, () -> x.check(), isOn ? 0 : 1);
                }
            }
        }
    }

    /** 2: "two share a step"; one inside the other, too, and the last two items. */
    private static void sharedSteps() {
        for (int at = 0; at <= 35; at++) {
            RoomFills x = room(40, 1, 40, 1, 1, 1, 1, 2, 5);
            x.place(4, 10);
            x.place(5, at);
            due("17 2 at 10, 5 at " + at, () -> x.check(), at > 5 && at < 12 ? 2 : 0);
            x.place(4, at);
            x.place(5, 10);
            due("17 5 at 10, 2 at " + at, () -> x.check(), at > 8 && at < 15 ? 2 : 0);
        }
    }

    /** 3: "one is on a FREE step". */
    private static void onFreeSteps() {
        for (int at = 0; at <= 16; at++) {
            RoomFills x = room(20, 1, 20, 4);
            x.door(8, 10);
            x.place(0, at);
            due("17 4 at " + at + ", free 8 .. 10", () -> x.check(), at > 4 && at < 10 ? 3 : 0);
        }
        RoomFills ends = room(5, 1, 5, 3);
        ends.door(0, 1);
        ends.door(4, 5);
        ends.place(0, 1);
        due("17 between free ends", () -> ends.check(), 0);
        ends.place(0, 0);
        due("17 on the first free step", () -> ends.check(), 3);
        ends.place(0, 2);
        due("17 on the last free step", () -> ends.check(), 3);
    }

    /** 7: steps "that are neither an ITEM's nor FREE are fewer than LEAST or more than MOST". */
    private static void gaps() {
        for (int at = 0; at <= 12; at++) {
            RoomFills x = room(14, 3, 9, 2);
            x.place(0, at);
            int behind = 12 - at;
            boolean isRight = (at == 0 || at >= 3 && at <= 9) && (behind == 0 || behind >= 3 && behind <= 9);
            due("17 gaps of " + at + " and " + behind, () -> x.check(), isRight ? 0 : 7);
            RoomFills y = room(14, 3, 9);
            if (at < 12) {
                y.door(at, at + 2);
                due("17 free between gaps of " + at + " and " + behind, () -> y.check(), isRight ? 0 : 7);
            }
        }
    }

    // ---- Promise 18 ----

    /** "Whatever is broken": each rule, and as many pairs that touch as there may be. */
    private static void rowOfBroken() {
        for (int broken = 0; broken < 128; broken++) {
            RoomFills x = brokenRow(broken, true);
            x.near(1, 2, 100);
            x.near(3, 4, 1000);
            long want = (isBroken(broken, 4) ? 50 : 60) + (isBroken(broken, 2) ? 0 : 100)
                    + (isBroken(broken, 3) || isBroken(broken, 4) ? 0 : 1000);
            due("18 rules " + Integer.toBinaryString(broken), () -> x.row(), want);
        }
        RoomFills most = new RoomFills(1);
        for (int k = 0; k < 6; k++) {
            most.item(20, 100000, 0);
            most.place(k, k < 3 ? 80 : 100);
            for (int a = 0; a < k; a++) {
                most.near(k, a, 100000);
            }
        }
        due("18 nine pairs touch", () -> most.row(), 1500000);
        for (int k = 0; k < 6; k++) {
            most.place(k, 0);
        }
        due("18 no pair touches", () -> most.row(), 600000);
    }

    // ---- What it is ----

    /** "At most 512 calls": 7 to tell the room, 84 times 6, and the last one. */
    private static void manyCalls() {
        RoomFills x = room(40, 1, 40, 3, 5, 7, 9, 2, 4);
        for (int k = 0; k < 84; k++) {
            boolean isOn = k % 2 == 0;
            x.must(5, isOn);
            due("512 run " + k, () -> x.run(), 7);
            due("512 worth " + k, () -> x.worth(0), 60);
            due("512 variant " + k, () -> x.variant(6), isOn ? NONE : 1);
            x.place(0, isOn ? 37 : 38);
            due("512 check " + k, () -> x.check(), isOn ? 4 : 1);
        }
        due("512 the last one", () -> x.row(), 10);
    }

    public static void main(String[] args) {
        nearestSteps();
        nothingToldYet();
        eachSpan();
        spanAgain();
        eightPipes();
        sixItems();
        widestItem();
        needReaches();
        needFromEachOwnStep();
        needInAPlan();
        needWithoutPipes();
        nearOfEachPair();
        nearAtEachDistance();
        barAtEachDistance();
        barOfEachPair();
        eachMust();
        eachFillerWidth();
        fillerAgain();
        noFillerAtFirst();
        freeSteps();
        betweenDoors();
        onceAndNotTwoFillers();
        worthThenCents();
        thenFromTheBegin();
        mostPieces();
        eachUnlike();
        goneAndNew();
        sixteenTold();
        noVariant();
        topsAtDoors();
        eachPlace();
        offIsNoStep();
        firstRule();
        onTheWall();
        sharedSteps();
        onFreeSteps();
        gaps();
        rowOfBroken();
        manyCalls();
        System.out.println(wrong == 0 ? "all " + done + " answers are as due" : wrong + " answers are not as due");
        if (wrong != 0) {
            System.exit(1);
        }
    }
}
