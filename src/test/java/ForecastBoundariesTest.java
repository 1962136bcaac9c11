/** Promises 12 to 15, what is foretold and tuned: each sentence that names a boundary case. */
public final class ForecastBoundariesTest extends Checks {
    /** The ship turns by 10 in each tick: behind tick n the error is less by 10 n. */
    private static final String TURN_BY_10 = ";yaw 10-rate;";
    /** The greater P, the sooner it settles; the second row is not in use. */
    private static final String STIFF = "ship 0 0;course 50;dead 2;rudder 450 99;row 0 7 0 0;row 100 7 0 0;yaw rudder/10-rate;";
    private static final String SMOOTH = "ship 0 100;course 200;dead 30;rudder 350 20;row 0 7 0 500;row 150 80 0 300;smooth;";

    public static void main(String[] args) {
        section("Promise 12: foretold");
        onlyTicksPass();
        ticksOfForetold();
        numbersOfForetold();
        wearAndAlarmsOfTheseTicks();
        greatestError();
        wrongForetold();
        section("Promise 13: settles");
        fiveTicksInARow();
        settledFirst();
        limitsOfSettles();
        wrongSettles();
        section("Promise 14: swings");
        errorsOfAnotherSign();
        ticksOfSwings();
        wrongSwings();
        section("Promise 15: tunes");
        soonestGain();
        leastSwing();
        limitsOfTunes();
        wrongRows();
        wrongTunes();
        finish();
    }

    private static void onlyTicksPass() {
        sentence("Foretells what comes if only ticks pass.");
        RudderSchedule x = shipOnItsWay();
        RudderSchedule twin = shipOnItsWay();
        long before = x.checksum();
        int wear = twin.state(9);
        for (int ticks = 1; ticks <= 300; ticks++) {
            twin.pass(1);
            if (ticks > 5 && ticks < 295) continue;
            int t = ticks;
            int[] want = {twin.state(1), twin.state(2), twin.state(3), twin.state(4), twin.state(9) - wear};
            for (int what = 0; what < want.length; what++) {
                int w = what;
                due("foretold(" + t + ", " + w + ")", want[w], () -> x.foretold(t, w));
            }
        }
        due("nothing has changed", before, x::checksum);
        due("it is no change: that of order is the latest", 2, x::undo);
    }

    private static void ticksOfForetold() {
        RudderSchedule x = made("ship 0 0;yaw 1-rate;");
        range("- `ticks`: 1 to 300", 1, 300, BAD_ARGUMENT, ticks -> x.foretold(ticks, 0));
        due("foretold(1, 0)", 1, () -> x.foretold(1, 0));
        due("foretold(300, 0)", 300, () -> x.foretold(300, 0));
    }

    private static void numbersOfForetold() {
        RudderSchedule x = made("ship 3595 7;speed 400;course 11;gust 0 0 20;yaw wind;off 1;row 0 150 0 0;");
        range("- `what`: 0 the heading then, 1 the rate of turn then, 2 the rudder angle then, 3 the speed then,", 0, 6, BAD_ARGUMENT,
            what -> x.foretold(300, what));
        int[] behindOne = {15, 20, 24, 12, 24, 0, 4};
        for (int what = 0; what < behindOne.length; what++) {
            int w = what;
            due("foretold(1, " + w + ")", behindOne[w], () -> x.foretold(1, w));
        }
    }

    private static void wearAndAlarmsOfTheseTicks() {
        sentence("4 the wear of these ticks, 5 the alarms of these ticks");
        RudderSchedule x = made("ship 0 0;off 10;row 0 100 0 0;rudder 100 10;course 100;");
        x.pass(12);
        dueState(x, 9, 100);
        dueState(x, 11, 1);
        due("no wear of these ticks", 0, () -> x.foretold(300, 4));
        due("no alarm of these ticks", 0, () -> x.foretold(300, 5));
        x.steer(0);
        x.pass(1);
        x.steer(3500);
        due("4 ticks", 0, () -> x.foretold(4, 5));
        due("5 ticks", 1, () -> x.foretold(5, 5));
        due("the wear of 1 tick", 10, () -> x.foretold(1, 4));
        due("the wear to the other side", 90 + 100, () -> x.foretold(300, 4));
        RudderSchedule nearly = made("ship 0 0;off 10;course 100;");
        nearly.pass(4);
        due("an alarm in the next tick", 1, () -> nearly.foretold(1, 5));
        nearly.pass(1);
        due("none behind it", 0, () -> nearly.foretold(1, 5));
    }

    private static void greatestError() {
        sentence("6 the greatest error without its sign behind any of these ticks, by the heading then");
        due("the error now does not count", 90, () -> made("ship 0 0;course 100" + TURN_BY_10).foretold(1, 6));
        due("the error behind the last tick counts", 200, () -> made("ship 0 0;course 100" + TURN_BY_10).foretold(30, 6));
        due("the greatest in between", 150, () -> made("ship 0 0;course 100;yaw wind-rate;gust 0 24 10;gust 25 40 -10;").foretold(30, 6));
        due("to the left", 120, () -> made("ship 0 0;course 3500" + TURN_BY_10).foretold(2, 6));
        due("none", 0, () -> new RudderSchedule().foretold(300, 6));
        due("the greatest of all", 1800, () -> made("ship 0 0;course 1800;").foretold(1, 6));
        due("wrapped", 1799, () -> made("ship 0 0;course 1799;yaw 0-2;").foretold(1, 6));
    }

    private static void wrongForetold() {
        sentence("Throws `IllegalArgumentException` if ticks or what is out of range");
        RudderSchedule x = shipOnItsWay();
        dueRefused("ticks", 1, 300, BAD_ARGUMENT, ticks -> x.foretold(ticks, 0));
        dueRefused("what", 0, 6, BAD_ARGUMENT, what -> x.foretold(1, what));
        due("both", BAD_ARGUMENT, () -> x.foretold(301, 7));
    }

    private static void fiveTicksInARow() {
        sentence("it is settled behind a tick if the error behind this tick and behind each of the 4 ticks before it is -dead to dead "
            + "(only ticks that pass from now on count).");
        due("the errors 20, 10, 0, -10, -20", 12, () -> made("ship 0 0;course 100;dead 20" + TURN_BY_10).settles(300));
        due("20 is beyond dead", -1, () -> made("ship 0 0;course 100;dead 19" + TURN_BY_10).settles(300));
        due("-21 is beyond -dead", -1, () -> made("ship 0 0;course 99;dead 20" + TURN_BY_10).settles(40));
        due("only 4 in the range", -1, () -> made("ship 0 0;course 95;dead 15" + TURN_BY_10).settles(40));
        due("4 in the range, then 5", 15,
            () -> made("ship 0 0;course 20;dead 2;yaw wind-rate;gust 0 0 20;gust 4 4 9;gust 10 10 -9;").settles(20));
        due("the error dead", 5, () -> made("ship 0 0;course 20;yaw 0;dead 20;").settles(5));
        due("the error -dead", 5, () -> made("ship 20 0;course 0;yaw 0;dead 20;").settles(5));
        due("beyond dead", -1, () -> made("ship 0 0;course 21;yaw 0;dead 20;").settles(300));
        due("beyond -dead", -1, () -> made("ship 21 0;course 0;yaw 0;dead 20;").settles(300));
        due("dead 0", 5, () -> made("ship 0 0;yaw 0;dead 0;").settles(300));
        RudderSchedule x = made("ship 0 0;yaw 0;");
        x.pass(50);
        due("ticks that have passed do not count", 5, () -> x.settles(300));
        RudderSchedule y = made("ship 0 0;course 100;dead 20" + TURN_BY_10);
        y.pass(9);
        due("two of the five have passed", -1, () -> y.settles(40));
        due("the error now does not count", 5, () -> made("ship 0 0;course 10;dead 9;yaw wind-rate;gust 0 0 1;").settles(300));
    }

    private static void settledFirst() {
        sentence("Returns the number of the tick behind which it is settled first, from 1 for the next one; -1 if it is not settled in "
            + "limit ticks.");
        due("settles(12)", 12, () -> made("ship 0 0;course 100;dead 20" + TURN_BY_10).settles(12));
        due("settles(11)", -1, () -> made("ship 0 0;course 100;dead 20" + TURN_BY_10).settles(11));
        due("the first of several", 5, () -> made("ship 0 0;yaw wind-rate;gust 20 20 50;gust 30 30 -50;").settles(300));
        // Behind tick 296 the error is dead for the first time.
        String late = "ship 0 0;course 21;dead 20;yaw wind-rate;gust 295 295 1;";
        due("settles(300)", 300, () -> made(late).settles(300));
        due("settles(299)", -1, () -> made(late).settles(299));
        due("one tick later", -1, () -> made(late.replace("295", "296")).settles(300));
        RudderSchedule on = made(late);
        on.pass(50);
        due("from now on", 250, () -> on.settles(300));
    }

    private static void limitsOfSettles() {
        RudderSchedule x = new RudderSchedule();
        range("- `limit`: 5 to 300", 5, 300, BAD_ARGUMENT, x::settles);
        due("settles(5)", 5, () -> x.settles(5));
    }

    private static void wrongSettles() {
        sentence("Throws `IllegalArgumentException` if limit is out of range");
        RudderSchedule x = new RudderSchedule();
        dueRefused("settles", 5, 300, BAD_ARGUMENT, x::settles);
    }

    private static void errorsOfAnotherSign() {
        sentence("Returns the greatest error without its sign, of those behind these ticks that have another sign than the error now (0 "
            + "if there are none, or if the error now is 0).");
        String right = "ship 0 0;course 95" + TURN_BY_10;
        due("none of another sign", 0, () -> made(right).swings(9));
        due("the first of another sign", 5, () -> made(right).swings(10));
        due("a later one", 15, () -> made(right).swings(11));
        due("the last ahead of the other side", 1795, () -> made(right).swings(189));
        due("1 to the left of 1 to the right", 1, () -> made("ship 0 0;course 1;yaw 2-rate;").swings(1));
        due("1 to the right of 1 to the left", 1, () -> made("ship 1 0;course 0;yaw 0-2-rate;").swings(1));
        String left = "ship 95 0;course 0;yaw 0-10-rate;";
        due("none of another sign, to the left", 0, () -> made(left).swings(9));
        due("the first of another sign, to the left", 5, () -> made(left).swings(10));
        due("the error 0 has no other sign", 0, () -> made("ship 0 0;course 100" + TURN_BY_10).swings(10));
        due("behind the error 0", 10, () -> made("ship 0 0;course 100" + TURN_BY_10).swings(11));
        due("no error now", 0, () -> made("ship 0 0" + TURN_BY_10).swings(300));
        due("no error now, to the left", 0, () -> made("ship 0 0;yaw 0-10-rate;").swings(300));
        due("the greatest, not the last", 25, () -> made("ship 0 0;course 95;yaw wind-rate;gust 0 11 10;gust 12 30 -10;").swings(30));
        due("greater ones of the same sign do not count", 0, () -> made("ship 0 0;course 95;yaw 0-10-rate;").swings(50));
        due("the error 1800 is to the right", 1799, () -> made("ship 0 0;course 1800;yaw 0-1-rate;").swings(1));
        RudderSchedule x = made(right);
        x.pass(10);
        due("the sign is that of now", 0, () -> x.swings(100));
    }

    private static void ticksOfSwings() {
        RudderSchedule x = made("ship 0 0;course 1;yaw 1-rate;");
        range("- `ticks`: 1 to 300", 1, 300, BAD_ARGUMENT, x::swings);
        due("swings(300)", 299, () -> x.swings(300));
        due("swings(299)", 298, () -> x.swings(299));
        due("swings(1)", 5, () -> made("ship 0 0;course 5;yaw 10;").swings(1));
    }

    private static void wrongSwings() {
        sentence("Throws `IllegalArgumentException` if ticks is out of range");
        RudderSchedule x = shipOnItsWay();
        dueRefused("swings", 1, 300, BAD_ARGUMENT, x::swings);
    }

    private static void soonestGain() {
        sentence("of 0, 20, 40 and so on up to 400 the one with which, if it was set now as P of this row alone, the ship would be "
            + "settled the soonest (settles(limit), -1 is behind all others);");
        due("up to 400", 400, () -> made(STIFF).tunes(0, 100));
        RudderSchedule more = made(STIFF);
        more.gains(0, 999, 0, 0);
        int withMore = more.settles(100);
        more.gains(0, 400, 0, 0);
        due("more than 400 would settle sooner", true, () -> withMore > 0 && withMore < more.settles(100));
        due("the least limit in which one settles", 400, () -> made(STIFF).tunes(0, 12));
        due("none settles: -1 with each", 0, () -> made(STIFF).tunes(0, 11));
        due("a row that is not in use", 0, () -> made(STIFF).tunes(1, 100));
        due("the row's own P does not count", 400, () -> made(STIFF.replace("row 0 7", "row 0 399")).tunes(0, 100));
        due("from 0 on", 0, () -> made("ship 0 0;course 5;dead 5;yaw rudder;").tunes(0, 100));
        // 20 turns the ship onto its course at once, more beyond it.
        due("a gain of 20", 20, () -> made("ship 0 0;course 10;dead 1;row 0 0 0 0;rudder 450 99;yaw rudder*5-rate;").tunes(0, 100));
        RudderSchedule kept = made(STIFF);
        kept.tunes(0, 100);
        dueAlike(kept, made(STIFF));
    }

    private static void leastSwing() {
        sentence("of several the one with which it would swing over its course the least (swings(limit)), of these the smallest.");
        due("all are alike", 0, () -> new RudderSchedule().tunes(0, 100));
        // None settles in 5 ticks; 12 - rudder a tick turns the ship by, so that 120 swings the least.
        due("the swing alone", 120, () -> made("ship 0 0;course 10;dead 0;row 0 7 0 0;yaw 12-rate-rudder;").tunes(0, 5));
        due("320 to 400 settle alike, 380 and 400 swing the least", 380, () -> made(SMOOTH).tunes(0, 100));
        due("120 to 340 settle and swing alike", 120,
            () -> made("ship 0 0;course 300;dead 90;rudder 450 20;row 0 7 0 50;yaw rudder/20-rate/4;").tunes(0, 60));
        for (int row = 0; row < 2; row++) {
            for (int limit : new int[] {5, 20, 99, 100}) {
                int r = row;
                due("tunes(" + r + ", " + limit + ") by hand", tunedByHand(SMOOTH, r, limit), () -> made(SMOOTH).tunes(r, limit));
            }
        }
    }

    private static void limitsOfTunes() {
        RudderSchedule x = made(SMOOTH);
        range("- `limit`: 5 to 100", 5, 100, BAD_ARGUMENT, limit -> x.tunes(1, limit));
        // From 20 on the ship turns by 1 in each tick from the 10th on, so that the error is dead behind the 96th.
        String late = "ship 0 0;course 147;dead 60;row 0 7 0 0;rudder 10 1;yaw rudder/10-rate;";
        due("settled behind the tick 100", 20, () -> made(late).tunes(0, 100));
        due("none is settled behind the tick 99", 0, () -> made(late).tunes(0, 99));
        // With 400 alone the error is dead behind the first tick.
        due("settled behind the tick 5", 400, () -> made("ship 0 0;course 20;dead 10;rudder 450 99;yaw rudder/8-rate;").tunes(0, 5));
    }

    private static void wrongRows() {
        sentence("Throws `IndexOutOfBoundsException` if there is no such row");
        RudderSchedule x = made(SMOOTH);
        dueRefused("row", 0, 1, BAD_INDEX, row -> x.tunes(row, 5));
        due("both", BAD_INDEX, () -> x.tunes(2, 4));
    }

    private static void wrongTunes() {
        sentence("Throws `IllegalArgumentException` if limit is out of range");
        RudderSchedule x = made(SMOOTH);
        dueRefused("limit", 5, 100, BAD_ARGUMENT, limit -> x.tunes(0, limit));
        dueAlike(x, made(SMOOTH));
    }

    /** The tuned gain by the other calls: each P is set and asked for settles and swings. */
    private static int tunedByHand(String text, int row, int limit) {
        RudderSchedule x = made(text);
        int best = -1;
        int soonest = 0;
        int least = 0;
        for (int p = 0; p <= 400; p += 20) {
            x.gains(row, p, x.row(row, 2), x.row(row, 3));
            int settled = x.settles(limit) == -1 ? Integer.MAX_VALUE : x.settles(limit);
            int swing = x.swings(limit);
            if (best < 0 || settled < soonest || settled == soonest && swing < least) {
                best = p;
                soonest = settled;
                least = swing;
            }
        }
        return best;
    }
}
