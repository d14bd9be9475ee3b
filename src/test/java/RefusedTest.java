import java.util.ArrayList;
import java.util.List;

/**
 * "A call that throws changes nothing": after each call that is refused, an object answers everything
 * as its twin does that was not called. And what ends a plan: what is told anew, but for a row; not
 * what answers false, not what throws.
 */
public final class RefusedTest {
    private static final Class<?> STATE = IllegalStateException.class;
    private static final Class<?> INDEX = IndexOutOfBoundsException.class;
    private static final Class<?> ARGUMENT = IllegalArgumentException.class;
    private static final int NONE = RoomFills.NONE;
    private static final int OFF = NONE - 100;

    private interface Call {
        Object on(RoomFills x);
    }

    private interface Maker {
        RoomFills make();
    }

    private static final class Refused {
        final String name;
        final Class<?> why;
        final Call call;

        Refused(String name, Class<?> why, Call call) {
            this.name = name;
            this.why = why;
            this.call = call;
        }
    }

    private static int wrong = 0;
    private static int done = 0;

    private static void due(String what, Object got, Object want) {
        done++;
        if (!got.equals(want)) {
            wrong++;
            System.out.println(what + ": got " + got + ", due is " + want);
        }
    }

    private static Object answer(RoomFills x, Call call) {
        try {
            return call.on(x);
        } catch (RuntimeException thrown) {
            return thrown.getClass();
        }
    }

    // ---- Rooms ----

    private static RoomFills newRoom() {
        return new RoomFills(20);
    }

    /** Everything is told, so that it can be told again and answers false. */
    private static RoomFills toldRoom(int items) {
        RoomFills x = new RoomFills(20);
        x.door(9, 11);
        for (int k = 0; k < 7; k++) {
            x.pipe(2 * k);
        }
        for (int k = 0; k < items; k++) {
            x.item(1 + k % 3, 10 + k, 5 + k);
        }
        x.need(1, 3);
        x.near(0, 2, 4);
        x.bar(1, 2);
        x.must(3, true);
        x.filler(1, 7);
        x.place(0, 2);
        x.place(2, -6);
        return x;
    }

    private static RoomFills plannedRoom(int items, int told) {
        RoomFills x = toldRoom(items);
        x.run();
        for (int k = 1; k < told; k++) {
            x.variant(1);
        }
        return x;
    }

    /** Fillers are wider than what a door leaves on either side. */
    private static RoomFills roomWithoutPlan() {
        RoomFills x = toldRoom(6);
        x.filler(10, 10);
        x.run();
        return x;
    }

    // ---- Whether two rooms are the same in all that they answer ----

    private static String aboutThePlan(RoomFills x) {
        StringBuilder text = new StringBuilder();
        text.append(answer(x, r -> r.worth(0))).append(' ').append(answer(x, r -> r.worth(1)));
        for (int item = 0; item < 6; item++) {
            int some = item;
            text.append(" at ").append(answer(x, r -> r.at(some)));
        }
        Object more = true;
        for (int k = 0; k < 40 && more != INDEX && more != STATE; k++) {
            int some = k;
            more = answer(x, r -> r.plan(some, 0) + "@" + r.plan(some, 1) + "+" + r.plan(some, 2));
            text.append(' ').append(more);
        }
        text.append(" tops ").append(answer(x, r -> r.top(NONE, 0))).append(' ').append(answer(x, r -> r.top(0, 1)));
        return text.append(" row ").append(x.check()).append(' ').append(x.row()).toString();
    }

    private static String variants(RoomFills x) {
        StringBuilder text = new StringBuilder();
        for (int k = 0; k < 17; k++) {
            text.append(' ').append(answer(x, r -> r.variant(1) + ":" + r.worth(0) + ":" + r.worth(1)));
        }
        return text.toString();
    }

    /** Told again, all at once: what was so before answers false. */
    private static String toldAgain(RoomFills x) {
        StringBuilder text = new StringBuilder();
        for (Call call : again()) {
            text.append(' ').append(answer(x, call));
        }
        return text.toString();
    }

    private static List<Call> again() {
        List<Call> calls = new ArrayList<>();
        calls.add(x -> x.door(9, 11));
        for (int k = 0; k < 7; k++) {
            int at = 2 * k;
            calls.add(x -> x.pipe(at));
        }
        calls.add(x -> x.filler(1, 7));
        for (int item = 0; item < 6; item++) {
            int a = item;
            calls.add(x -> x.need(a, a == 1 ? 3 : NONE));
            calls.add(x -> x.must(a, a == 3));
            calls.add(x -> x.place(a, a == 0 ? 2 : a == 2 ? -6 : OFF));
            for (int other = 0; other < a; other++) {
                int b = other;
                calls.add(x -> x.near(a, b, a == 2 && b == 0 ? 4 : 0));
            }
        }
        calls.add(x -> x.bar(1, 2));
        return calls;
    }

    /** Told anew: what was not so before answers true. */
    private static String toldAnew(RoomFills x) {
        StringBuilder text = new StringBuilder();
        text.append(answer(x, r -> r.item(1, 1, 1)));
        for (int item = 0; item < 6; item++) {
            for (int other = 0; other < item; other++) {
                int a = item;
                int b = other;
                text.append(' ').append(answer(x, r -> r.bar(a, b)));
            }
        }
        for (int step = 1; step < 20; step += 2) {
            int at = step;
            text.append(' ').append(answer(x, r -> r.pipe(at)));
        }
        for (int step = 0; step < 20; step++) {
            int at = step;
            text.append(' ').append(answer(x, r -> r.door(at, at + 1)));
        }
        return text.append(' ').append(x.run()).toString();
    }

    private static String everything(RoomFills x) {
        String before = aboutThePlan(x);
        String told = toldAgain(x);
        String still = aboutThePlan(x);
        String others = variants(x);
        String last = aboutThePlan(x);
        String anew = x.run() + " " + aboutThePlan(x);
        return String.join("\n", before, told, still, others, last, anew, toldAnew(x));
    }

    // ---- Calls that are refused ----

    private static void add(List<Refused> list, String name, Class<?> why, Call call) {
        list.add(new Refused(name, why, call));
    }

    /** Refused whatever was told, where there are items 0 .. 3 at least. */
    private static List<Refused> alwaysRefused() {
        List<Refused> list = new ArrayList<>();
        add(list, "2 door(-1, 5)", ARGUMENT, x -> x.door(-1, 5));
        add(list, "2 door(5, 5)", ARGUMENT, x -> x.door(5, 5));
        add(list, "2 door(5, 4)", ARGUMENT, x -> x.door(5, 4));
        add(list, "2 door(5, 21)", ARGUMENT, x -> x.door(5, 21));
        add(list, "2 door(20, 21)", ARGUMENT, x -> x.door(20, 21));
        add(list, "3 pipe(-1)", ARGUMENT, x -> x.pipe(-1));
        add(list, "3 pipe(20)", ARGUMENT, x -> x.pipe(20));
        add(list, "5 need(-1, 0)", INDEX, x -> x.need(-1, 0));
        add(list, "5 need(6, 0)", INDEX, x -> x.need(6, 0));
        add(list, "5 need(6, 41)", INDEX, x -> x.need(6, 41));
        add(list, "5 need(1, 41)", ARGUMENT, x -> x.need(1, 41));
        add(list, "5 need(1, -2)", ARGUMENT, x -> x.need(1, -2));
        add(list, "6 near(0, 6, 9)", INDEX, x -> x.near(0, 6, 9));
        add(list, "6 near(-1, 0, 9)", INDEX, x -> x.near(-1, 0, 9));
        add(list, "6 near(6, 6, -1)", INDEX, x -> x.near(6, 6, -1));
        add(list, "6 near(0, 0, 9)", ARGUMENT, x -> x.near(0, 0, 9));
        add(list, "6 near(0, 2, -1)", ARGUMENT, x -> x.near(0, 2, -1));
        add(list, "6 near(0, 2, 100001)", ARGUMENT, x -> x.near(0, 2, 100001));
        add(list, "7 bar(0, 6)", INDEX, x -> x.bar(0, 6));
        add(list, "7 bar(-1, 0)", INDEX, x -> x.bar(-1, 0));
        add(list, "7 bar(6, 6)", INDEX, x -> x.bar(6, 6));
        add(list, "7 bar(0, 0)", ARGUMENT, x -> x.bar(0, 0));
        add(list, "8 must(6, true)", INDEX, x -> x.must(6, true));
        add(list, "8 must(-1, true)", INDEX, x -> x.must(-1, true));
        add(list, "9 filler(0, 3)", ARGUMENT, x -> x.filler(0, 3));
        add(list, "9 filler(3, 2)", ARGUMENT, x -> x.filler(3, 2));
        add(list, "9 filler(3, 41)", ARGUMENT, x -> x.filler(3, 41));
        add(list, "9 filler(41, 41)", ARGUMENT, x -> x.filler(41, 41));
        add(list, "16 place(6, 101)", INDEX, x -> x.place(6, 101));
        add(list, "16 place(-1, 0)", INDEX, x -> x.place(-1, 0));
        add(list, "16 place(0, 101)", ARGUMENT, x -> x.place(0, 101));
        add(list, "16 place(0, -102)", ARGUMENT, x -> x.place(0, -102));
        return list;
    }

    private static List<Refused> refusedItems(Class<?> why) {
        List<Refused> list = new ArrayList<>();
        add(list, "4 item(0, 1, 1)", why, x -> x.item(0, 1, 1));
        add(list, "4 item(21, 1, 1)", why, x -> x.item(21, 1, 1));
        add(list, "4 item(1, -1, 1)", why, x -> x.item(1, -1, 1));
        add(list, "4 item(1, 100001, 1)", why, x -> x.item(1, 100001, 1));
        add(list, "4 item(1, 1, -1)", why, x -> x.item(1, 1, -1));
        add(list, "4 item(1, 1, 100001)", why, x -> x.item(1, 1, 100001));
        return list;
    }

    private static List<Refused> refusedAsks() {
        List<Refused> list = new ArrayList<>();
        add(list, "11 variant(-1)", ARGUMENT, x -> x.variant(-1));
        add(list, "11 variant(7)", ARGUMENT, x -> x.variant(7));
        add(list, "12 at(6)", INDEX, x -> x.at(6));
        add(list, "12 at(-1)", INDEX, x -> x.at(-1));
        add(list, "13 plan(-1, 0)", INDEX, x -> x.plan(-1, 0));
        add(list, "13 plan(40, 3)", INDEX, x -> x.plan(40, 3));
        add(list, "13 plan(0, 3)", ARGUMENT, x -> x.plan(0, 3));
        add(list, "14 worth(2)", INDEX, x -> x.worth(2));
        add(list, "14 worth(-1)", INDEX, x -> x.worth(-1));
        add(list, "15 top(-2, 0)", INDEX, x -> x.top(-2, 0));
        add(list, "15 top(40, 2)", INDEX, x -> x.top(40, 2));
        add(list, "15 top(0, 2)", ARGUMENT, x -> x.top(0, 2));
        add(list, "15 top(NONE, 2)", ARGUMENT, x -> x.top(NONE, 2));
        return list;
    }

    private static List<Refused> asksWithoutPlan() {
        List<Refused> list = new ArrayList<>();
        add(list, "11 variant(0)", STATE, x -> x.variant(0));
        add(list, "11 variant(7)", STATE, x -> x.variant(7));
        add(list, "12 at(0)", STATE, x -> x.at(0));
        add(list, "12 at(6)", STATE, x -> x.at(6));
        add(list, "13 plan(0, 0)", STATE, x -> x.plan(0, 0));
        add(list, "13 plan(-1, 3)", STATE, x -> x.plan(-1, 3));
        add(list, "14 worth(0)", STATE, x -> x.worth(0));
        add(list, "14 worth(2)", STATE, x -> x.worth(2));
        add(list, "15 top(NONE, 0)", STATE, x -> x.top(NONE, 0));
        add(list, "15 top(-2, 2)", STATE, x -> x.top(-2, 2));
        return list;
    }

    private static void changesNothing(String how, Maker maker, List<Refused> list) {
        String want = everything(maker.make());
        for (Refused refused : list) {
            RoomFills x = maker.make();
            due(how + ", " + refused.name, answer(x, refused.call), refused.why);
            due(how + ", after " + refused.name, everything(x), want);
        }
        RoomFills all = maker.make();
        for (Refused refused : list) {
            due(how + ", in a row " + refused.name, answer(all, refused.call), refused.why);
        }
        due(how + ", after all of them", everything(all), want);
    }

    private static void refusedCalls() {
        changesNothing("told", () -> toldRoom(5), alwaysRefused());
        changesNothing("told", () -> toldRoom(5), refusedItems(ARGUMENT));
        changesNothing("told", () -> toldRoom(5), asksWithoutPlan());
        changesNothing("six items", () -> toldRoom(6), refusedItems(STATE));
        changesNothing("new", () -> newRoom(), refusedItems(ARGUMENT));
        changesNothing("new", () -> newRoom(), asksWithoutPlan());
        changesNothing("no plan found", () -> roomWithoutPlan(), alwaysRefused());
        changesNothing("no plan found", () -> roomWithoutPlan(), asksWithoutPlan());
        for (int told = 1; told <= 15; told += 7) {
            int some = told;
            changesNothing(told + " told", () -> plannedRoom(5, some), alwaysRefused());
            changesNothing(told + " told", () -> plannedRoom(5, some), refusedItems(ARGUMENT));
            changesNothing(told + " told", () -> plannedRoom(6, some), refusedItems(STATE));
            changesNothing(told + " told", () -> plannedRoom(6, some), refusedAsks());
        }
        List<Refused> full = new ArrayList<>();
        add(full, "11 variant(0)", STATE, x -> x.variant(0));
        add(full, "11 variant(6)", STATE, x -> x.variant(6));
        add(full, "11 variant(7)", STATE, x -> x.variant(7));
        changesNothing("16 told", () -> plannedRoom(6, 16), full);
        changesNothing("16 told", () -> plannedRoom(6, 16), alwaysRefused());
    }

    // ---- What ends a plan ----

    private static void endsThePlan(String name, Call call, Object answer) {
        RoomFills x = plannedRoom(5, 2);
        due(name, answer(x, call), answer);
        for (Refused ask : asksWithoutPlan()) {
            due(name + " ends the plan, " + ask.name, answer(x, ask.call), STATE);
        }
        due(name + ", then a run", x.run() != NONE, true);
        due(name + ", the run's plan is there", answer(x, r -> r.worth(0)) != STATE, true);
    }

    private static void endings() {
        endsThePlan("2 door(0, 1)", x -> x.door(0, 1), true);
        endsThePlan("3 pipe(1)", x -> x.pipe(1), true);
        endsThePlan("4 item(20, 0, 0)", x -> x.item(20, 0, 0), 5);
        endsThePlan("5 need(0, 40)", x -> x.need(0, 40), true);
        endsThePlan("5 need(1, NONE)", x -> x.need(1, NONE), true);
        endsThePlan("6 near(0, 1, 1)", x -> x.near(0, 1, 1), true);
        endsThePlan("6 near(2, 0, 0)", x -> x.near(2, 0, 0), true);
        endsThePlan("7 bar(3, 4)", x -> x.bar(3, 4), true);
        endsThePlan("8 must(0, true)", x -> x.must(0, true), true);
        endsThePlan("8 must(3, false)", x -> x.must(3, false), true);
        endsThePlan("9 filler(1, 8)", x -> x.filler(1, 8), true);
        endsThePlan("9 filler(2, 7)", x -> x.filler(2, 7), true);
    }

    private static void keepsThePlan(String name, Call call, Object answer) {
        RoomFills twin = plannedRoom(5, 3);
        String plan = planAlone(twin);
        String others = variants(twin);
        RoomFills x = plannedRoom(5, 3);
        due(name, answer(x, call), answer);
        due(name + " keeps the plan", planAlone(x), plan);
        due(name + " keeps what is told", variants(x), others);
    }

    private static String planAlone(RoomFills x) {
        String all = aboutThePlan(x);
        return all.substring(0, all.indexOf(" row "));
    }

    private static void keepings() {
        keepsThePlan("2 door(9, 11)", x -> x.door(9, 11), false);
        keepsThePlan("2 door(10, 11)", x -> x.door(10, 11), false);
        keepsThePlan("3 pipe(12)", x -> x.pipe(12), false);
        keepsThePlan("5 need(0, NONE)", x -> x.need(0, NONE), false);
        keepsThePlan("5 need(1, 3)", x -> x.need(1, 3), false);
        keepsThePlan("6 near(2, 0, 4)", x -> x.near(2, 0, 4), false);
        keepsThePlan("6 near(0, 1, 0)", x -> x.near(0, 1, 0), false);
        keepsThePlan("7 bar(2, 1)", x -> x.bar(2, 1), false);
        keepsThePlan("8 must(3, true)", x -> x.must(3, true), false);
        keepsThePlan("8 must(0, false)", x -> x.must(0, false), false);
        keepsThePlan("9 filler(1, 7)", x -> x.filler(1, 7), false);
        keepsThePlan("16 place(0, 2)", x -> x.place(0, 2), false);
        keepsThePlan("16 place(0, 3)", x -> x.place(0, 3), true);
        keepsThePlan("16 place(0, OFF)", x -> x.place(0, OFF), true);
        keepsThePlan("17 check()", x -> x.check(), 1);
        keepsThePlan("18 row()", x -> x.row(), 22L);
    }

    /** A ninth pipe answers false: it is not told, so the plan stays. */
    private static void noRoomForAPipe() {
        RoomFills x = toldRoom(5);
        due("3 the eighth", answer(x, r -> r.pipe(19)), true);
        int pieces = x.run();
        due("3 the ninth", answer(x, r -> r.pipe(17)), false);
        due("3 the plan is still there", answer(x, r -> r.plan(pieces - 1, 1) >= 0), true);
    }

    public static void main(String[] args) {
        refusedCalls();
        endings();
        keepings();
        noRoomForAPipe();
        System.out.println(wrong == 0 ? "all " + done + " answers are as due" : wrong + " answers are not as due");
        if (wrong != 0) {
            System.exit(1);
        }
    }
}
