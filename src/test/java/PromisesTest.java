/** Each promise by hand: ordinary inputs, the edges that the document names, wrong inputs. */
public final class PromisesTest {
    private static final Class<?> STATE = IllegalStateException.class;
    private static final Class<?> INDEX = IndexOutOfBoundsException.class;
    private static final Class<?> ARGUMENT = IllegalArgumentException.class;
    private static final int NONE = RoomFills.NONE;
    private static final int OFF = NONE - 100;

    private interface Call {
        Object answer();
    }

    private static int wrong = 0;
    private static int done = 0;

    private static void due(String what, Call call, Object want) {
        Object got;
        try {
            got = call.answer();
        } catch (RuntimeException thrown) {
            got = thrown.getClass();
        }
        done++;
        boolean same = got instanceof Number && want instanceof Number
                ? ((Number) got).longValue() == ((Number) want).longValue()
                : got.equals(want);
        if (!same) {
            wrong++;
            System.out.println(what + ": got " + got + ", due is " + want);
        }
    }

    /** The latest plan as text: items by number, fillers as f, each with its begin and its steps. */
    private static String pieces(RoomFills x, int count) {
        StringBuilder text = new StringBuilder();
        for (int k = 0; k < count; k++) {
            int item = x.plan(k, 0);
            text.append(k == 0 ? "" : " ").append(item == NONE ? "f" : "" + item);
            text.append("@").append(x.plan(k, 1)).append("+").append(x.plan(k, 2));
        }
        return text.toString();
    }

    private static String best(RoomFills x) {
        int count = x.run();
        return count == NONE ? "none" : pieces(x, count);
    }

    private static String other(RoomFills x, int unlike) {
        int count = x.variant(unlike);
        return count == NONE ? "none" : pieces(x, count);
    }

    private static RoomFills room(int steps, int least, int most, int... widths) {
        RoomFills x = new RoomFills(steps);
        if (most > 0) {
            x.filler(least, most);
        }
        for (int width : widths) {
            x.item(width, 10, 1);
        }
        return x;
    }

    private static void lastStep(int told, int steps) {
        due("1 last step of " + told, () -> new RoomFills(told).pipe(steps - 1), true);
        due("1 beyond " + told, () -> new RoomFills(told).pipe(steps), ARGUMENT);
    }

    private static void newObject() {
        lastStep(1, 1);
        lastStep(0, 1);
        lastStep(-7, 1);
        lastStep(Integer.MIN_VALUE, 1);
        lastStep(2, 2);
        lastStep(39, 39);
        lastStep(40, 40);
        lastStep(41, 40);
        lastStep(Integer.MAX_VALUE, 40);
        due("1 no item", () -> new RoomFills(5).must(0, true), INDEX);
        due("1 no plan", () -> new RoomFills(5).worth(0), STATE);
        due("1 empty row", () -> new RoomFills(5).row(), 0);
        due("1 no filler, so a gap", () -> new RoomFills(5).check(), 7);
    }

    private static void door() {
        RoomFills x = room(10, 1, 10, 2);
        due("2 new", () -> x.door(2, 4), true);
        due("2 same", () -> x.door(2, 4), false);
        due("2 inside", () -> x.door(3, 4), false);
        due("2 one more", () -> x.door(3, 5), true);
        due("2 to is not free", () -> best(x), "0@0+2 f@5+5");
        due("2 last", () -> x.door(9, 10), true);
        due("2 last is free", () -> best(x), "0@0+2 f@5+4");
        due("2 from below", () -> x.door(-1, 3), ARGUMENT);
        due("2 from beyond", () -> x.door(10, 11), ARGUMENT);
        due("2 empty", () -> x.door(6, 6), ARGUMENT);
        due("2 back", () -> x.door(6, 5), ARGUMENT);
        due("2 to beyond", () -> x.door(6, 11), ARGUMENT);
        due("2 far", () -> x.door(0, Integer.MAX_VALUE), ARGUMENT);
        due("2 a throw keeps the plan", () -> x.worth(0), 10);
        due("2 a false keeps the plan", () -> x.door(2, 5) ? 99 : x.worth(0), 10);
        due("2 whole", () -> x.door(0, 10), true);
        due("2 a true ends the plan", () -> x.worth(0), STATE);
        due("2 whole, nothing in it", () -> x.run(), 0);
    }

    private static void pipe() {
        RoomFills x = room(40, 1, 40, 1);
        due("3 first", () -> x.pipe(0), true);
        due("3 same", () -> x.pipe(0), false);
        for (int k = 1; k < 8; k++) {
            int at = 40 - k;
            due("3 at " + at, () -> x.pipe(at), true);
        }
        due("3 plan", () -> x.run(), 2);
        due("3 ninth", () -> x.pipe(20), false);
        due("3 a false keeps the plan", () -> x.worth(0), 10);
        due("3 below", () -> x.pipe(-1), ARGUMENT);
        due("3 beyond, though full", () -> x.pipe(40), ARGUMENT);
        RoomFills y = room(3, 1, 3, 1);
        y.run();
        due("3 a true ends the plan", () -> y.pipe(1) ? y.worth(0) : 99, STATE);
    }

    private static void item() {
        RoomFills x = new RoomFills(40);
        due("4 width 0", () -> x.item(0, 0, 0), ARGUMENT);
        due("4 width 21", () -> x.item(21, 0, 0), ARGUMENT);
        due("4 worth below", () -> x.item(1, -1, 0), ARGUMENT);
        due("4 worth above", () -> x.item(1, 100001, 0), ARGUMENT);
        due("4 worth far above", () -> x.item(1, 1L << 32, 0), ARGUMENT);
        due("4 cents below", () -> x.item(1, 0, -1), ARGUMENT);
        due("4 cents above", () -> x.item(1, 0, 100001), ARGUMENT);
        due("4 cents far above", () -> x.item(1, 0, 1L << 32), ARGUMENT);
        due("4 first", () -> x.item(1, 0, 0), 0);
        due("4 second", () -> x.item(20, 100000, 100000), 1);
        x.filler(1, 40);
        due("4 plan", () -> best(x), "0@0+1 1@1+20 f@21+19");
        due("4 worth", () -> x.worth(0), 100000);
        due("4 cents", () -> x.worth(1), 100000);
        due("4 an item ends the plan", () -> x.item(20, 100000, 100000) == 2 ? x.worth(0) : 99, STATE);
        due("4 both", () -> best(x), "1@0+20 2@20+20");
        due("4 fourth", () -> x.item(1, 1, 1), 3);
        due("4 fifth", () -> x.item(1, 1, 1), 4);
        due("4 sixth", () -> x.item(1, 1, 1), 5);
        due("4 seventh", () -> x.item(1, 1, 1), STATE);
        due("4 seventh, wrong too", () -> x.item(0, -1, -1), STATE);
    }

    private static void need() {
        RoomFills x = room(10, 1, 10, 2);
        due("5 not at first", () -> x.need(0, NONE), false);
        due("5 0", () -> x.need(0, 0), true);
        due("5 same", () -> x.need(0, 0), false);
        due("5 no pipe", () -> best(x), "f@0+10");
        x.pipe(5);
        due("5 on it", () -> best(x), "f@0+4 0@4+2 f@6+4");
        due("5 1", () -> x.need(0, 1), true);
        due("5 one from it", () -> best(x), "f@0+3 0@3+2 f@5+5");
        x.door(0, 6);
        due("5 behind it", () -> best(x), "0@6+2 f@8+2");
        due("5 0 again", () -> x.need(0, 0), true);
        due("5 no more on it", () -> best(x), "f@6+4");
        due("5 40", () -> x.need(0, 40), true);
        due("5 a true ends the plan", () -> x.worth(0), STATE);
        due("5 NONE", () -> x.need(0, NONE), true);
        x.run();
        due("5 a false keeps the plan", () -> x.need(0, NONE) ? 99 : x.worth(0), 10);
        due("5 above", () -> x.need(0, 41), ARGUMENT);
        due("5 below", () -> x.need(0, -2), ARGUMENT);
        due("5 no item", () -> x.need(1, 0), INDEX);
        due("5 no item, below", () -> x.need(-1, 99), INDEX);
        RoomFills y = room(40, 1, 40, 1);
        y.pipe(39);
        y.need(0, 38);
        due("5 38 of 39", () -> best(y), "f@0+1 0@1+1 f@2+38");
        y.need(0, 39);
        due("5 39 of 39", () -> best(y), "0@0+1 f@1+39");
    }

    private static void near() {
        RoomFills x = room(9, 1, 9, 3, 3, 2);
        due("6 not at first", () -> x.near(0, 1, 0), false);
        due("6 new", () -> x.near(0, 2, 5), true);
        due("6 same", () -> x.near(0, 2, 5), false);
        due("6 same, the other way", () -> x.near(2, 0, 5), false);
        due("6 other", () -> x.near(2, 0, 6), true);
        due("6 plan", () -> best(x), "0@0+3 2@3+2 1@5+3 f@8+1");
        due("6 worth", () -> x.worth(0), 36);
        due("6 cents", () -> x.worth(1), 3);
        due("6 a false keeps the plan", () -> x.near(0, 2, 6) ? 99 : x.worth(0), 36);
        x.near(1, 2, 100000);
        due("6 a true ends the plan", () -> x.worth(0), STATE);
        due("6 both sides", () -> best(x) + " " + x.worth(0), "0@0+3 2@3+2 1@5+3 f@8+1 100036");
        x.door(3, 4);
        due("6 not over a door", () -> best(x) + " " + x.worth(0), "0@0+3 1@4+3 2@7+2 100030");
        due("6 below", () -> x.near(0, 1, -1), ARGUMENT);
        due("6 above", () -> x.near(0, 1, 100001), ARGUMENT);
        due("6 far above", () -> x.near(0, 1, 1L << 40), ARGUMENT);
        due("6 one", () -> x.near(1, 1, 0), ARGUMENT);
        due("6 no a", () -> x.near(3, 1, -1), INDEX);
        due("6 no b", () -> x.near(1, -1, -1), INDEX);
        due("6 one that is not", () -> x.near(3, 3, 0), INDEX);
        RoomFills y = room(5, 1, 5, 2, 2);
        y.near(0, 1, 7);
        y.place(0, 0);
        y.place(1, 3);
        due("6 not over a filler", () -> y.row(), 20);
    }

    private static void bar() {
        RoomFills x = room(5, 1, 5, 2, 2);
        due("7 plan before", () -> best(x), "0@0+2 1@2+2 f@4+1");
        due("7 new", () -> x.bar(1, 0), true);
        due("7 a true ends the plan", () -> x.worth(0), STATE);
        due("7 not touching", () -> best(x), "0@0+2 f@2+1 1@3+2");
        due("7 same", () -> x.bar(1, 0), false);
        due("7 same, the other way", () -> x.bar(0, 1), false);
        due("7 a false keeps the plan", () -> x.worth(0), 20);
        due("7 one", () -> x.bar(0, 0), ARGUMENT);
        due("7 no a", () -> x.bar(2, 0), INDEX);
        due("7 no b", () -> x.bar(0, -1), INDEX);
        due("7 one that is not", () -> x.bar(2, 2), INDEX);
        RoomFills y = room(5, 0, 0, 2, 2);
        y.bar(0, 1);
        y.door(2, 3);
        due("7 over a door", () -> best(y), "0@0+2 1@3+2");
        RoomFills z = room(4, 0, 0, 2, 2);
        z.bar(0, 1);
        due("7 no plan", () -> best(z), "none");
    }

    private static void must() {
        RoomFills x = room(4, 1, 4, 3, 3);
        due("8 not at first", () -> x.must(1, false), false);
        due("8 plan before", () -> best(x), "0@0+3 f@3+1");
        due("8 on", () -> x.must(1, true), true);
        due("8 a true ends the plan", () -> x.worth(0), STATE);
        due("8 it is there", () -> best(x), "1@0+3 f@3+1");
        due("8 on again", () -> x.must(1, true), false);
        due("8 a false keeps the plan", () -> x.worth(0), 10);
        due("8 both", () -> x.must(0, true), true);
        due("8 no room for both", () -> best(x), "none");
        due("8 no plan then", () -> x.worth(0), STATE);
        due("8 off", () -> x.must(1, false), true);
        due("8 the other one", () -> best(x), "0@0+3 f@3+1");
        due("8 no item", () -> x.must(2, true), INDEX);
        due("8 no item, below", () -> x.must(-1, false), INDEX);
        RoomFills y = room(1, 1, 1);
        y.item(1, 0, 5);
        due("8 worth nothing", () -> best(y), "f@0+1");
        y.must(0, true);
        due("8 worth nothing, but must", () -> best(y), "0@0+1");
    }

    private static void filler() {
        RoomFills x = room(5, 0, 0, 3);
        due("9 none at first", () -> best(x), "none");
        due("9 new", () -> x.filler(2, 2), true);
        due("9 same", () -> x.filler(2, 2), false);
        due("9 one", () -> best(x), "0@0+3 f@3+2");
        due("9 a false keeps the plan", () -> x.filler(2, 2) ? 99 : x.worth(0), 10);
        due("9 most", () -> x.filler(2, 3), true);
        due("9 a true ends the plan", () -> x.worth(0), STATE);
        due("9 least", () -> x.filler(1, 3), true);
        due("9 3 .. 4 are too many", () -> x.filler(3, 4) ? best(x) : "", "none");
        due("9 1 .. 1, not two together", () -> x.filler(1, 1) ? best(x) : "", "f@0+1 0@1+3 f@4+1");
        due("9 least 0", () -> x.filler(0, 3), ARGUMENT);
        due("9 least 41", () -> x.filler(41, 41), ARGUMENT);
        due("9 most below", () -> x.filler(3, 2), ARGUMENT);
        due("9 most 41", () -> x.filler(1, 41), ARGUMENT);
        due("9 40", () -> x.filler(40, 40), true);
        due("9 1", () -> x.filler(1, 40), true);
    }

    private static void run() {
        due("10 nothing", () -> new RoomFills(3).run(), NONE);
        due("10 a filler alone", () -> best(room(3, 3, 3)), "f@0+3");
        RoomFills cents = room(3, 1, 3);
        cents.item(3, 5, 2);
        cents.item(3, 5, 1);
        due("10 the fewest cents", () -> best(cents), "1@0+3");
        RoomFills free = room(2, 1, 2);
        free.item(2, 0, 0);
        due("10 an item before a filler", () -> best(free), "0@0+2");
        RoomFills dear = room(2, 1, 2);
        dear.item(2, 0, 1);
        due("10 a filler for fewer cents", () -> best(dear), "f@0+2");
        due("10 a lesser number", () -> best(room(6, 1, 2, 3, 3)), "0@0+3 1@3+3");
        due("10 an item sooner", () -> best(room(5, 1, 5, 3)), "0@0+3 f@3+2");
        due("10 shorter filler", () -> best(room(7, 1, 2, 4)), "f@0+1 0@1+4 f@5+2");
        due("10 a lesser number at the begin, though in another set", () -> best(room(5, 1, 2, 2, 4, 4)), "1@0+4 f@4+1");
        RoomFills sets = room(4, 4, 4, 2, 4, 2);
        sets.item(4, 20, 2);
        due("10 tied sets", () -> best(sets), "0@0+2 2@2+2");
        RoomFills doors = room(12, 1, 2, 3);
        doors.door(2, 4);
        doors.door(8, 10);
        due("10 fillers at a door", () -> best(doors), "f@0+2 0@4+3 f@7+1 f@10+2");
        RoomFills split = room(5, 1, 1);
        split.door(1, 2);
        split.door(3, 4);
        due("10 fillers between doors", () -> best(split), "f@0+1 f@2+1 f@4+1");
        RoomFills wide = room(40, 1, 40, 20, 20, 1);
        due("10 wide ones", () -> best(wide), "0@0+20 1@20+20");
        RoomFills again = room(3, 1, 3, 2);
        due("10 twice", () -> best(again) + " " + best(again), "0@0+2 f@2+1 0@0+2 f@2+1");
        RoomFills worthy = room(6, 1, 6, 6, 3, 3);
        due("10 two for one", () -> best(worthy), "1@0+3 2@3+3");
    }

    private static void variant() {
        RoomFills x = room(6, 1, 6, 3, 3, 2);
        due("11 before a run", () -> x.variant(0), STATE);
        due("11 before a run, wrong too", () -> x.variant(9), STATE);
        due("11 run", () -> best(x), "0@0+3 1@3+3");
        due("11 below", () -> x.variant(-1), ARGUMENT);
        due("11 above", () -> x.variant(7), ARGUMENT);
        due("11 0 is the best again", () -> other(x, 0), "0@0+3 1@3+3");
        due("11 1", () -> other(x, 1), "0@0+3 2@3+2 f@5+1");
        due("11 1 again", () -> other(x, 1), "1@0+3 2@3+2 f@5+1");
        due("11 1 once more", () -> other(x, 1), "0@0+3 f@3+3");
        due("11 6", () -> other(x, 6), "none");
        due("11 the plan before", () -> pieces(x, 2), "0@0+3 f@3+3");
        due("11 its worth", () -> x.worth(0), 10);
        due("11 2", () -> other(x, 2), "none");
        due("11 1 goes on", () -> other(x, 1), "1@0+3 f@3+3");
        due("11 at that", () -> x.at(1), 0);
        due("11 a false keeps what is told", () -> x.must(0, false) ? "" : other(x, 1), "2@0+2 f@2+4");
        due("11 the last one", () -> other(x, 1), "f@0+6");
        due("11 none left", () -> other(x, 1), "none");
        due("11 a run forgets", () -> best(x) + " " + other(x, 1), "0@0+3 1@3+3 0@0+3 2@3+2 f@5+1");
        RoomFills full = room(6, 1, 6, 3);
        full.run();
        for (int k = 2; k <= 16; k++) {
            due("11 told " + k, () -> full.variant(0), 2);
            due("11 none is not told", () -> full.variant(6), k == 16 ? STATE : NONE);
        }
        due("11 17", () -> full.variant(0), STATE);
        due("11 17, wrong too", () -> full.variant(7), STATE);
        due("11 the latest stays", () -> pieces(full, 2), "0@0+3 f@3+3");
        due("11 a run makes room", () -> full.run() + full.variant(1), 3);
        RoomFills told = room(6, 1, 6, 3);
        told.run();
        told.door(0, 1);
        due("11 something was told", () -> told.variant(0), STATE);
        RoomFills must = room(6, 1, 6, 3);
        must.must(0, true);
        must.run();
        due("11 must is there too", () -> must.variant(1), NONE);
    }

    private static void at() {
        RoomFills x = room(7, 1, 7, 3, 9, 3);
        due("12 before a run", () -> x.at(0), STATE);
        due("12 before a run, wrong too", () -> x.at(9), STATE);
        due("12 run", () -> best(x), "0@0+3 2@3+3 f@6+1");
        due("12 first", () -> x.at(0), 0);
        due("12 not in it", () -> x.at(1), NONE);
        due("12 last", () -> x.at(2), 3);
        due("12 no item", () -> x.at(3), INDEX);
        due("12 below", () -> x.at(-1), INDEX);
        due("12 variant", () -> other(x, 1), "0@0+3 f@3+4");
        due("12 gone", () -> x.at(2), NONE);
        due("12 a place keeps the plan", () -> x.place(0, 5) ? x.at(0) : 99, 0);
        x.item(1, 0, 0);
        due("12 something was told", () -> x.at(0), STATE);
    }

    private static void plan() {
        RoomFills x = room(7, 1, 7, 3);
        x.door(0, 1);
        due("13 before a run", () -> x.plan(0, 0), STATE);
        due("13 before a run, wrong too", () -> x.plan(-9, 9), STATE);
        due("13 run", () -> x.run(), 2);
        due("13 item", () -> x.plan(0, 0), 0);
        due("13 begin", () -> x.plan(0, 1), 1);
        due("13 steps", () -> x.plan(0, 2), 3);
        due("13 filler", () -> x.plan(1, 0), NONE);
        due("13 its begin", () -> x.plan(1, 1), 4);
        due("13 its steps", () -> x.plan(1, 2), 3);
        due("13 no piece", () -> x.plan(2, 0), INDEX);
        due("13 below", () -> x.plan(-1, 0), INDEX);
        due("13 no piece, wrong too", () -> x.plan(2, 3), INDEX);
        due("13 what above", () -> x.plan(0, 3), ARGUMENT);
        due("13 what below", () -> x.plan(0, -1), ARGUMENT);
        x.door(0, 7);
        due("13 no pieces", () -> x.run(), 0);
        due("13 none of none", () -> x.plan(0, 0), INDEX);
    }

    private static void worth() {
        RoomFills x = room(40, 1, 40);
        for (int k = 0; k < 6; k++) {
            x.item(6, 100000, 100000);
        }
        for (int a = 0; a < 6; a++) {
            for (int b = a + 1; b < 6; b++) {
                x.near(a, b, 100000);
            }
        }
        due("14 before a run", () -> x.worth(0), STATE);
        due("14 before a run, wrong too", () -> x.worth(2), STATE);
        due("14 run", () -> x.run(), 7);
        due("14 worth", () -> x.worth(0), 1100000);
        due("14 cents", () -> x.worth(1), 600000);
        due("14 above", () -> x.worth(2), INDEX);
        due("14 below", () -> x.worth(-1), INDEX);
        due("14 variant", () -> x.variant(6), 1);
        due("14 its worth", () -> x.worth(0), 0);
        due("14 its cents", () -> x.worth(1), 0);
    }

    private static void top() {
        RoomFills x = room(12, 1, 12, 3, 4);
        x.door(7, 8);
        x.door(9, 11);
        due("15 before a run", () -> x.top(NONE, 0), STATE);
        due("15 before a run, wrong too", () -> x.top(-5, 5), STATE);
        due("15 run", () -> best(x), "0@0+3 1@3+4 f@8+1 f@11+1");
        due("15 how many", () -> x.top(NONE, 0), 3);
        due("15 how many, too", () -> x.top(NONE, 1), 3);
        due("15 first", () -> x.top(0, 0) + "+" + x.top(0, 1), "0+7");
        due("15 second", () -> x.top(1, 0) + "+" + x.top(1, 1), "8+1");
        due("15 third", () -> x.top(2, 0) + "+" + x.top(2, 1), "11+1");
        due("15 no top", () -> x.top(3, 0), INDEX);
        due("15 below", () -> x.top(-2, 0), INDEX);
        due("15 no top, wrong too", () -> x.top(3, 2), INDEX);
        due("15 what above", () -> x.top(0, 2), ARGUMENT);
        due("15 what below", () -> x.top(0, -1), ARGUMENT);
        due("15 NONE, what above", () -> x.top(NONE, 2), ARGUMENT);
        due("15 NONE, what below", () -> x.top(NONE, -1), ARGUMENT);
        x.door(0, 12);
        x.run();
        due("15 none", () -> x.top(NONE, 0), 0);
        due("15 none of none", () -> x.top(0, 0), INDEX);
        RoomFills y = room(40, 1, 1);
        for (int step = 1; step < 40; step += 2) {
            y.door(step, step + 1);
        }
        due("15 as many pieces as can be", () -> y.run(), 20);
        due("15 as many tops as can be", () -> y.top(NONE, 0), 20);
        due("15 the last of them", () -> y.top(19, 0) + "+" + y.top(19, 1), "38+1");
    }

    private static void place() {
        RoomFills x = room(10, 1, 10, 2);
        due("16 not at first", () -> x.place(0, OFF), false);
        due("16 put", () -> x.place(0, 3), true);
        due("16 same", () -> x.place(0, 3), false);
        due("16 least", () -> x.place(0, -100), true);
        due("16 most", () -> x.place(0, 100), true);
        due("16 NONE is a step beyond", () -> x.place(0, NONE) ? x.check() : 99, 1);
        due("16 off", () -> x.place(0, OFF), true);
        due("16 off again", () -> x.place(0, OFF), false);
        due("16 above", () -> x.place(0, 101), ARGUMENT);
        due("16 below", () -> x.place(0, OFF - 1), ARGUMENT);
        due("16 far below", () -> x.place(0, Integer.MIN_VALUE), ARGUMENT);
        due("16 no item", () -> x.place(1, 999), INDEX);
        due("16 no item, below", () -> x.place(-1, 0), INDEX);
        x.run();
        due("16 it keeps the plan", () -> x.place(0, 5) ? x.worth(0) : 99, 10);
        due("16 a run keeps the row", () -> x.run() == 2 ? x.place(0, 5) : 99, false);
    }

    private static void check() {
        RoomFills x = room(12, 2, 3, 2, 3, 2);
        due("17 a gap is too long", () -> x.check(), 7);
        x.filler(2, 12);
        due("17 nothing is put", () -> x.check(), 0);
        x.place(0, 11);
        due("17 behind the wall", () -> x.check(), 1);
        x.place(0, -1);
        due("17 before the wall", () -> x.check(), 1);
        x.place(0, 10);
        due("17 at the end", () -> x.check(), 0);
        x.place(1, 8);
        due("17 a step is shared", () -> x.check(), 2);
        x.place(2, 100);
        due("17 1 before 2", () -> x.check(), 1);
        x.place(2, OFF);
        x.door(9, 10);
        due("17 2 before 3", () -> x.check(), 2);
        x.place(1, 7);
        due("17 on a free step", () -> x.check(), 3);
        x.must(2, true);
        due("17 3 before 4", () -> x.check(), 3);
        x.place(1, 6);
        due("17 one that must", () -> x.check(), 4);
        x.need(1, 1);
        due("17 4 before 5", () -> x.check(), 4);
        x.place(2, 4);
        due("17 no pipe", () -> x.check(), 5);
        x.bar(2, 1);
        due("17 5 before 6", () -> x.check(), 5);
        x.pipe(10);
        due("17 a pipe too far", () -> x.check(), 5);
        x.pipe(9);
        due("17 a barred pair", () -> x.check(), 6);
        x.place(2, 3);
        due("17 a gap of 1", () -> x.check(), 7);
        x.place(2, 1);
        due("17 a gap of 1 at the begin", () -> x.check(), 7);
        x.place(2, 2);
        due("17 two gaps of 2", () -> x.check(), 0);
        x.filler(3, 4);
        due("17 fewer than least", () -> x.check(), 7);
        x.filler(1, 1);
        due("17 more than most", () -> x.check(), 7);
        x.filler(2, 2);
        due("17 just so many", () -> x.check(), 0);
        x.place(0, OFF);
        due("17 a gap of 2 at the end", () -> x.check(), 0);
        x.door(11, 12);
        due("17 a gap of 1 between doors", () -> x.check(), 7);
        RoomFills y = room(4, 0, 0, 2, 2);
        y.place(0, 2);
        y.place(1, 0);
        due("17 full, no filler", () -> y.check(), 0);
        y.need(0, 0);
        y.pipe(1);
        due("17 a pipe beside it", () -> y.check(), 5);
        y.need(0, 1);
        due("17 a pipe near enough", () -> y.check(), 0);
        y.place(0, OFF);
        due("17 a gap at the end, no filler", () -> y.check(), 7);
        y.door(2, 4);
        due("17 no need if not put", () -> y.check(), 0);
        RoomFills gaps = room(7, 2, 2);
        gaps.door(2, 5);
        due("17 a door parts gaps", () -> gaps.check(), 0);
    }

    private static void row() {
        RoomFills x = new RoomFills(5);
        x.item(3, 100, 7);
        x.item(2, 20, 7);
        x.item(4, 3, 7);
        x.near(0, 1, 5000);
        x.near(1, 2, 60000);
        due("18 nothing is put", () -> x.row(), 0);
        x.place(0, 0);
        due("18 one", () -> x.row(), 100);
        x.place(1, 3);
        due("18 two that touch", () -> x.row(), 5120);
        x.place(1, 4);
        due("18 two that do not", () -> x.row(), 120);
        x.place(1, -2);
        due("18 touching beyond the wall", () -> x.row(), 5120);
        x.place(2, -6);
        due("18 all three", () -> x.row(), 65123);
        x.place(2, 0);
        due("18 sharing a step", () -> x.row(), 65123);
        x.place(1, 1);
        due("18 sharing does not touch", () -> x.row(), 123);
        x.bar(0, 1);
        x.place(1, 3);
        due("18 barred", () -> x.row(), 5123);
        x.door(0, 5);
        due("18 on free steps", () -> x.row(), 5123);
        x.place(0, OFF);
        due("18 taken off", () -> x.row(), 23);
    }

    public static void main(String[] args) {
        newObject();
        door();
        pipe();
        item();
        need();
        near();
        bar();
        must();
        filler();
        run();
        variant();
        at();
        plan();
        worth();
        top();
        place();
        check();
        row();
        System.out.println(wrong == 0 ? "all " + done + " answers are as due" : wrong + " answers are not as due");
        if (wrong != 0) {
            System.exit(1);
        }
    }
}
