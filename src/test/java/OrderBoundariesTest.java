/** Promises 17 to 22, what is ordered and set: each sentence that names a boundary case. */
public final class OrderBoundariesTest extends Checks {
    private static final String TWO_ROWS = "ship 0 50;row 0 100 0 0;row 100 200 0 0;";

    public static void main(String[] args) {
        section("Promise 17: pass");
        alarmsOfPass();
        ticksOfPass();
        wrongPass();
        section("Promise 18: steer");
        errorOfSteer();
        coursesOfSteer();
        wrongSteer();
        section("Promise 19: order");
        ticksOfOrder();
        speedsOfOrder();
        wrongOrder();
        section("Promise 20: gust");
        windOfGust();
        firstTicks();
        lastTicks();
        strengths();
        wrongGust();
        eightGusts();
        section("Promise 21: gains");
        gainInUse();
        wrongRows();
        gainsP();
        gainsI();
        gainsD();
        wrongGains();
        section("Promise 22: smooth");
        smooth();
        finish();
    }

    private static void alarmsOfPass() {
        sentence("Returns the alarms that were given in them.");
        RudderSchedule x = made("ship 0 0;off 10;course 11;");
        due("4 ticks", 0, () -> x.pass(4));
        due("the 5th", 1, () -> x.pass(1));
        due("more", 0, () -> x.pass(50));
        x.steer(0);
        due("on course", 0, () -> x.pass(1));
        x.steer(3589);
        due("off again", 1, () -> x.pass(50));
        dueState(x, 11, 2);
        due("two in one call", 2, () -> made("ship 0 0;off 10;yaw wind-rate;gust 0 5 20;gust 12 20 5;gust 6 11 -20;").pass(50));
    }

    private static void ticksOfPass() {
        RudderSchedule x = new RudderSchedule();
        range("- `ticks`: 1 to 50", 1, 50, BAD_ARGUMENT, x::pass);
        dueState(x, 0, 1 + 25 + 50);
    }

    private static void wrongPass() {
        sentence("Throws `IllegalArgumentException` if ticks is out of range");
        RudderSchedule x = new RudderSchedule();
        dueRefused("pass", 1, 50, BAD_ARGUMENT, x::pass);
        dueState(x, 0, 1 + 50);
    }

    private static void errorOfSteer() {
        sentence("Returns the error then.");
        RudderSchedule x = made("ship 3000 0;");
        int[][] want = {{3000, 0}, {3599, 599}, {0, 600}, {1199, 1799}, {1200, 1800}, {1201, -1799}, {2999, -1}};
        for (int[] w : want) {
            due("steer(" + w[0] + ")", w[1], () -> x.steer(w[0]));
            dueState(x, 5, w[0]);
        }
    }

    private static void coursesOfSteer() {
        RudderSchedule x = new RudderSchedule();
        range("- `course`: 0 to 3599", 0, 3599, BAD_ARGUMENT, x::steer);
        dueState(x, 5, 3599);
    }

    private static void wrongSteer() {
        sentence("Throws `IllegalArgumentException` if course is out of range");
        RudderSchedule x = new RudderSchedule();
        dueRefused("steer", 0, 3599, BAD_ARGUMENT, x::steer);
        dueState(x, 5, 3599);
    }

    private static void ticksOfOrder() {
        sentence("Returns in how many ticks the ship has it.");
        RudderSchedule x = made("ship 0 100;pull 7;");
        int[][] want = {{100, 0}, {101, 1}, {107, 1}, {108, 2}, {114, 2}, {115, 3}, {99, 1}, {93, 1}, {92, 2}, {86, 2}, {85, 3},
            {400, 43}, {0, 15}};
        for (int[] w : want) {
            due("order(" + w[0] + ")", w[1], () -> x.order(w[0]));
            for (int ticks = 1; ticks <= w[1]; ticks++) {
                int t = ticks;
                due("has it behind " + t, t == w[1], () -> x.foretold(t, 3) == w[0]);
            }
        }
        due("the pull 1, to the fastest", 400, () -> made("ship 0 0;pull 1;").order(400));
        due("the pull 50, to the fastest", 8, () -> made("ship 0 0;pull 50;").order(400));
        due("the pull 50, from 399", 8, () -> made("ship 0 399;pull 50;").order(0));
        due("the pull 50, to 351", 8, () -> made("ship 0 0;pull 50;").order(351));
    }

    private static void speedsOfOrder() {
        RudderSchedule x = new RudderSchedule();
        range("- `speed`: 0 to 400", 0, 400, BAD_ARGUMENT, x::order);
        dueState(x, 6, 400);
    }

    private static void wrongOrder() {
        sentence("Throws `IllegalArgumentException` if speed is out of range");
        RudderSchedule x = new RudderSchedule();
        dueRefused("order", 0, 400, BAD_ARGUMENT, x::order);
        dueState(x, 6, 400);
    }

    private static void windOfGust() {
        sentence("Returns the wind at the present tick then.");
        RudderSchedule x = new RudderSchedule();
        x.pass(4);
        due("it begins now", 9, () -> x.gust(4, 8, 9));
        due("it ends now", 19, () -> x.gust(0, 4, 10));
        due("it begins in the next tick", 19, () -> x.gust(5, 9, 50));
        due("it ended in the tick before", 19, () -> x.gust(0, 3, 50));
        due("only now", 19 - 99, () -> x.gust(4, 4, -99));
        RudderSchedule late = new RudderSchedule();
        for (int i = 0; i < 199; i++) late.pass(50);
        late.pass(49);
        due("in the tick 9999", 99, () -> late.gust(9999, 9999, 99));
        late.pass(1);
        due("in the tick 10000", 0, () -> late.gust(0, 9999, 99));
        for (int i = 0; i < 201; i++) late.pass(50);
        due("in a tick beyond 20000", 0, () -> late.gust(0, 9999, 99));
    }

    private static void firstTicks() {
        range("- `first`: its first tick, 0 to 9999", 0, 9999, BAD_ARGUMENT, first -> new RudderSchedule().gust(first, 9999, 1));
        due("the first tick 0", 1, () -> new RudderSchedule().gust(0, 9999, 1));
        due("the first tick 9999", 0, () -> new RudderSchedule().gust(9999, 9999, 1));
    }

    private static void lastTicks() {
        sentence("- `last`: its last tick, first to 9999");
        RudderSchedule x = new RudderSchedule();
        due("first itself", 1, () -> x.gust(0, 0, 1));
        due("less than first", BAD_ARGUMENT, () -> x.gust(5, 4, 1));
        due("less than first, the least", BAD_ARGUMENT, () -> x.gust(1, 0, 1));
        due("first itself, the last tick", 1, () -> x.gust(9999, 9999, 1));
        due("beyond", BAD_ARGUMENT, () -> x.gust(9999, 10000, 1));
        due("beyond first", 1, () -> x.gust(5, 6, 1));
    }

    private static void strengths() {
        range("- `strength`: -99 to 99", -99, 99, BAD_ARGUMENT, strength -> new RudderSchedule().gust(0, 0, strength));
        for (int strength : new int[] {-99, -1, 0, 1, 99}) {
            due("the strength " + strength, strength, () -> new RudderSchedule().gust(0, 0, strength));
        }
    }

    private static void wrongGust() {
        sentence("Throws `IllegalArgumentException` if a parameter is out of range");
        dueRefused("first", 0, 9999, BAD_ARGUMENT, first -> new RudderSchedule().gust(first, 9999, 1));
        dueRefused("last", 0, 9999, BAD_ARGUMENT, last -> new RudderSchedule().gust(0, last, 1));
        dueRefused("last of first 37", 37, 9999, BAD_ARGUMENT, last -> new RudderSchedule().gust(37, last, 1));
        dueRefused("strength", -99, 99, BAD_ARGUMENT, strength -> new RudderSchedule().gust(0, 0, strength));
    }

    private static void eightGusts() {
        sentence("Throws `IllegalStateException` if there are 8 gusts");
        RudderSchedule x = made("ship 0 0;gust 0 0 1;gust 0 0 1;");
        for (int i = 3; i <= 8; i++) due("gust " + i, i, () -> x.gust(0, 0, 1));
        due("gust 9", BAD_STATE, () -> x.gust(0, 0, 1));
        due("gust 9 again", BAD_STATE, () -> x.gust(0, 0, 1));
        due("a wrong one", BAD_ARGUMENT, () -> x.gust(0, 0, 100));
        dueState(x, 14, 8);
        due("wind(0)", 8, () -> x.wind(0));
        x.pass(50);
        due("gusts that are over count too", BAD_STATE, () -> x.gust(60, 60, 1));
        loaded(x, "ship 0 0;");
        due("room behind a load", 1, () -> x.gust(0, 0, 1));
    }

    private static void gainInUse() {
        sentence("Returns the gain P that is in use then.");
        RudderSchedule x = made(TWO_ROWS);
        due("of the row in use", 999, () -> x.gains(0, 999, 99, 999));
        due("of another row", 999, () -> x.gains(1, 0, 0, 0));
        due("of the least", 0, () -> x.gains(0, 0, 0, 0));
        x.smooth(true);
        due("smooth", 499, () -> x.gains(1, 999, 1, 1));
        due("its speed stays", 100, () -> x.row(1, 0));
        RudderSchedule last = made("ship 0 100;smooth;row 0 100 0 0;row 100 200 0 0;");
        due("the last row", 7, () -> last.gains(1, 7, 0, 0));
        due("the row before", 7, () -> last.gains(0, 9, 0, 0));
    }

    private static void wrongRows() {
        sentence("Throws `IndexOutOfBoundsException` if there is no such row");
        RudderSchedule x = made(TWO_ROWS);
        dueRefused("row", 0, 1, BAD_INDEX, row -> x.gains(row, 5, 6, 7));
        due("both", BAD_INDEX, () -> x.gains(2, 1000, 100, 1000));
    }

    private static void gainsP() {
        RudderSchedule x = new RudderSchedule();
        range("- `p`: P, 0 to 999", 0, 999, BAD_ARGUMENT, p -> x.gains(0, p, 6, 7));
        due("row(0, 1)", 999, () -> x.row(0, 1));
    }

    private static void gainsI() {
        RudderSchedule x = new RudderSchedule();
        range("- `i`: I, 0 to 99", 0, 99, BAD_ARGUMENT, i -> x.gains(0, 5, i, 7));
        due("row(0, 2)", 99, () -> x.row(0, 2));
    }

    private static void gainsD() {
        RudderSchedule x = new RudderSchedule();
        range("- `d`: D, 0 to 999", 0, 999, BAD_ARGUMENT, d -> x.gains(0, 5, 6, d));
        due("row(0, 3)", 999, () -> x.row(0, 3));
    }

    private static void wrongGains() {
        sentence("Throws `IllegalArgumentException` if a gain is out of range");
        RudderSchedule x = made(TWO_ROWS);
        dueRefused("P", 0, 999, BAD_ARGUMENT, p -> x.gains(0, p, 6, 7));
        dueRefused("I", 0, 99, BAD_ARGUMENT, i -> x.gains(0, 5, i, 7));
        dueRefused("D", 0, 999, BAD_ARGUMENT, d -> x.gains(0, 5, 6, d));
        int[] want = {0, 5, 6, 999};
        for (int what = 0; what < 4; what++) {
            int w = what;
            due("row(0, " + w + ")", want[w], () -> x.row(0, w));
        }
    }

    private static void smooth() {
        sentence("Returns whether it was.");
        RudderSchedule x = new RudderSchedule();
        boolean[] set = {false, true, true, false, false, true};
        boolean[] was = {false, false, true, true, false, false};
        for (int i = 0; i < set.length; i++) {
            boolean next = set[i];
            due("smooth(" + next + ")", was[i], () -> x.smooth(next));
            dueState(x, 15, next ? 1 : 0);
        }
        due("smooth by the text", true, () -> made("ship 0 0;smooth;").smooth(true));
        loaded(x, "ship 0 0;");
        due("not by the text", false, () -> x.smooth(true));
        x.undo();
        due("undone", false, () -> x.smooth(false));
    }
}
