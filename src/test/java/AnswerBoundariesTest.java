import java.math.BigInteger;

/** Promises 5 to 11, 16 and 24, what the ship tells of itself: each sentence that names a boundary case. */
public final class AnswerBoundariesTest extends Checks {
    private static final String TWO_ROWS = "ship 0 0;row 0 1 2 3;row 40 5 6 7;";
    private static final String THREE_ROWS = "ship 0 0;row 0 100 10 300;row 100 110 3 0;row 400 10 99 999;";

    public static void main(String[] args) {
        section("Promise 5: state");
        numbersOfState();
        tickOfTheLatestAlarm();
        errorNow();
        smoothAsNumber();
        wrongStates();
        section("Promise 6: row");
        numbersOfRow();
        wrongRows();
        wrongNumbersOfRow();
        section("Promise 7: gain");
        gainAtThisSpeed();
        speedsOfGain();
        numbersOfGain();
        wrongGains();
        section("Promise 8: wind");
        ticksOfWind();
        wrongTicks();
        section("Promise 9: error");
        errorOfHeadingAndCourse();
        headings();
        courses();
        wrongHeadings();
        section("Promise 10: why");
        reasons();
        reasonOfTheNextTick();
        section("Promise 11: wanted");
        wanted();
        section("Promise 16: meanWear");
        meanWear();
        section("Promise 24: checksum");
        checksumOverflows();
        numbersOfChecksum();
        windOfChecksum();
        finish();
    }

    private static void numbersOfState() {
        sentence("- `what`: 0 the time, 1 the heading, 2 the rate of turn, 3 the rudder angle, 4 the speed, 5 the course, 6 the ordered "
            + "speed, 7 the error as it is now, 8 the sum of errors, 9 the wear, 10 the ticks off course, 11 the alarms, 12 the tick "
            + "of the latest alarm (-1 without one), 13 the rows, 14 the gusts, 15 1 if the schedule is smooth, otherwise 0, 16 the "
            + "row in use");
        RudderSchedule x = made("ship 3500 100;course 100;row 0 100 0 0;row 60 90 0 0;row 120 80 0 0;off 150;band 300;rudder 300 40;"
            + "gust 0 9 1;smooth;speed 130;");
        x.pass(6);
        // Tick by tick P is 83, 82, 81, 80, 80, 80; the error 200, 197, 190, 178, 161, 140; the rudder 40, 80, 120, 142,
        // 128, 112; the rate of turn 3, 7, 12, 17, 21, 22.
        int[] want = {6, 3582, 22, 112, 130, 100, 130, 118, 1066, 172, 0, 1, 4, 3, 1, 1, 2};
        for (int i = 0; i < want.length; i++) dueState(x, i, want[i]);
    }

    private static void tickOfTheLatestAlarm() {
        sentence("12 the tick of the latest alarm (-1 without one)");
        RudderSchedule x = made("ship 0 0;off 1;course 2;");
        dueState(x, 12, -1);
        x.pass(4);
        dueState(x, 12, -1);
        x.pass(1);
        dueState(x, 12, 4);
        x.pass(50);
        dueState(x, 12, 4);
        x.undo();
        x.undo();
        dueState(x, 12, -1);
        x.pass(5);
        loaded(x, "ship 0 0;");
        dueState(x, 12, -1);
    }

    private static void errorNow() {
        sentence("7 the error as it is now");
        RudderSchedule x = made("ship 0 0;course 100;yaw 10-rate;");
        dueState(x, 7, 100);
        x.pass(1);
        dueState(x, 7, 90);
        x.steer(1810);
        dueState(x, 7, 1800);
        x.steer(1811);
        dueState(x, 7, -1799);
    }

    private static void smoothAsNumber() {
        sentence("15 1 if the schedule is smooth, otherwise 0");
        dueState(new RudderSchedule(), 15, 0);
        dueState(made("ship 0 0;smooth;"), 15, 1);
        RudderSchedule x = new RudderSchedule();
        x.smooth(true);
        dueState(x, 15, 1);
        x.smooth(false);
        dueState(x, 15, 0);
    }

    private static void wrongStates() {
        sentence("Throws `IllegalArgumentException` if what is out of range");
        RudderSchedule x = new RudderSchedule();
        dueRefused("state", 0, 16, BAD_ARGUMENT, x::state);
    }

    private static void numbersOfRow() {
        sentence("- `what`: 0 its speed, 1 P, 2 I, 3 D");
        RudderSchedule x = made(TWO_ROWS);
        int[] want = {0, 1, 2, 3, 40, 5, 6, 7};
        for (int i = 0; i < want.length; i++) {
            int at = i;
            due("row(" + i / 4 + ", " + i % 4 + ")", want[i], () -> x.row(at / 4, at % 4));
        }
        due("row(0, -1)", BAD_ARGUMENT, () -> x.row(0, -1));
        due("row(1, 4)", BAD_ARGUMENT, () -> x.row(1, 4));
    }

    private static void wrongRows() {
        sentence("Throws `IndexOutOfBoundsException` if there is no such row");
        StringBuilder text = new StringBuilder("ship 0 0;");
        for (int i = 0; i < 8; i++) text.append("row ").append(50 * i).append(' ').append(i).append(" 1 1;");
        RudderSchedule full = made(text.toString());
        RudderSchedule two = made(TWO_ROWS);
        dueRefused("row", 0, 0, BAD_INDEX, row -> new RudderSchedule().row(row, 0));
        dueRefused("row", 0, 1, BAD_INDEX, row -> two.row(row, 0));
        dueRefused("row", 0, 7, BAD_INDEX, row -> full.row(row, 0));
        due("row(7, 0)", 350, () -> full.row(7, 0));
        due("row(7, 1)", 7, () -> full.row(7, 1));
        loaded(full, "ship 0 0;row 0 1 1 1;row 1 1 1 1;");
        due("a row of the text before", BAD_INDEX, () -> full.row(2, 0));
    }

    private static void wrongNumbersOfRow() {
        sentence("Throws `IllegalArgumentException` if what is out of range");
        RudderSchedule x = made(TWO_ROWS);
        dueRefused("what", 0, 3, BAD_ARGUMENT, what -> x.row(0, what));
        dueRefused("what", 0, 3, BAD_ARGUMENT, what -> x.row(1, what));
        due("both", BAD_INDEX, () -> x.row(2, 4));
    }

    private static void gainAtThisSpeed() {
        sentence("Returns this gain as it would be in use at this speed.");
        RudderSchedule x = made(THREE_ROWS);
        int[][] want = {{0, 100, 10, 300}, {99, 100, 10, 300}, {100, 110, 3, 0}, {399, 110, 3, 0}, {400, 10, 99, 999}};
        int[][] smoothWant = {{0, 100, 10, 300}, {1, 100, 10, 297}, {99, 109, 4, 3}, {100, 110, 3, 0}, {101, 110, 3, 3},
            {399, 11, 98, 995}, {400, 10, 99, 999}};
        for (int[] w : want) dueGains(x, w);
        x.smooth(true);
        for (int[] w : smoothWant) dueGains(x, w);
        due("the ship's own speed", 0, () -> x.state(4));
    }

    private static void speedsOfGain() {
        RudderSchedule x = made(THREE_ROWS);
        range("- `speed`: 0 to 400", 0, 400, BAD_ARGUMENT, speed -> x.gain(speed, 3));
        due("gain(0, 3)", 300, () -> x.gain(0, 3));
        due("gain(400, 3)", 999, () -> x.gain(400, 3));
    }

    private static void numbersOfGain() {
        RudderSchedule x = made(THREE_ROWS);
        range("- `what`: 1 P, 2 I, 3 D", 1, 3, BAD_ARGUMENT, what -> x.gain(0, what));
        dueGains(x, new int[] {400, 10, 99, 999});
    }

    private static void wrongGains() {
        sentence("Throws `IllegalArgumentException` if speed or what is out of range");
        RudderSchedule x = made(THREE_ROWS);
        dueRefused("speed", 0, 400, BAD_ARGUMENT, speed -> x.gain(speed, 1));
        dueRefused("what", 1, 3, BAD_ARGUMENT, what -> x.gain(0, what));
        dueRefused("what", 1, 3, BAD_ARGUMENT, what -> x.gain(400, what));
        due("both", BAD_ARGUMENT, () -> x.gain(401, 0));
    }

    private static void ticksOfWind() {
        RudderSchedule x = made("ship 0 0;gust 0 0 7;gust 9999 9999 5;");
        range("- `tick`: 0 to 20000", 0, 20000, BAD_ARGUMENT, x::wind);
        int[][] want = {{0, 7}, {1, 0}, {9998, 0}, {9999, 5}, {10000, 0}, {20000, 0}};
        for (int[] w : want) due("wind(" + w[0] + ")", w[1], () -> x.wind(w[0]));
        x.pass(50);
        for (int[] w : want) due("wind(" + w[0] + ") at the time 50", w[1], () -> x.wind(w[0]));
    }

    private static void wrongTicks() {
        sentence("Throws `IllegalArgumentException` if tick is out of range");
        RudderSchedule x = made("ship 0 0;gust 0 9999 7;");
        dueRefused("wind", 0, 20000, BAD_ARGUMENT, x::wind);
    }

    private static void errorOfHeadingAndCourse() {
        sentence("Returns the error of this heading with this course.");
        RudderSchedule x = made("ship 5 0;course 9;");
        int[][] want = {{0, 0, 0}, {0, 1800, 1800}, {1800, 0, 1800}, {0, 1801, -1799}, {1799, 0, -1799}, {3599, 0, 1}, {0, 3599, -1}};
        for (int[] w : want) due("error(" + w[0] + ", " + w[1] + ")", w[2], () -> x.error(w[0], w[1]));
        due("the ship's own error", 4, () -> x.state(7));
    }

    private static void headings() {
        RudderSchedule x = new RudderSchedule();
        range("- `heading`: 0 to 3599", 0, 3599, BAD_ARGUMENT, heading -> x.error(heading, 5));
        due("error(3599, 3599)", 0, () -> x.error(3599, 3599));
    }

    private static void courses() {
        RudderSchedule x = new RudderSchedule();
        range("- `course`: 0 to 3599", 0, 3599, BAD_ARGUMENT, course -> x.error(5, course));
        due("error(1800, 3599)", 1799, () -> x.error(1800, 3599));
    }

    private static void wrongHeadings() {
        sentence("Throws `IllegalArgumentException` if heading or course is out of range");
        RudderSchedule x = new RudderSchedule();
        dueRefused("heading", 0, 3599, BAD_ARGUMENT, heading -> x.error(heading, 0));
        dueRefused("course", 0, 3599, BAD_ARGUMENT, course -> x.error(0, course));
        due("both", BAD_ARGUMENT, () -> x.error(-1, 3600));
    }

    private static void reasons() {
        sentence("Returns the first that applies: 1 the wanted rudder is 0 as the error and the rate of turn are small, 2 it is limited "
            + "by the limit (it was greater than the limit, or less than -limit), 3 the rudder does not come to the wanted one in "
            + "this tick because of its rate, otherwise 0.");
        String ship = "ship 0 0;dead 0;row 0 100 0 0;rudder 50 20;course ";
        int[][] want = {{0, 1}, {1, 0}, {20, 0}, {21, 3}, {50, 3}, {51, 2}, {1800, 2}, {1801, 2}, {3549, 2}, {3550, 3}, {3579, 3},
            {3580, 0}, {3599, 0}};
        for (int[] w : want) due("why at the course " + w[0], w[1], () -> made(ship + w[0] + ";").why());
        RudderSchedule x = made(ship + "50;");
        x.pass(3);
        dueState(x, 3, 50);
        due("at the limit", 0, x::why);
        x.steer(0);
        due("small, though 0 is beyond the rate", 1, x::why);
        x.steer(3500);
        due("beyond the limit and the rate", 2, x::why);
        x.steer(51);
        due("beyond the limit, but the rudder stays", 2, x::why);
        x.steer(30);
        due("back by the rate", 0, x::why);
        x.steer(29);
        due("back by more than the rate", 3, x::why);
        due("0 by itself, with an error that is not small", 0, () -> made("ship 0 0;dead 5;row 0 1 0 0;course 9;").why());
    }

    private static void reasonOfTheNextTick() {
        sentence("Explains the rudder of the next tick, if it passed now (behind (1) and (2) of that tick).");
        due("by the speed of that tick", 2, () -> made("ship 0 9;speed 10;row 0 0 0 0;row 10 999 0 0;course 100;").why());
        due("not yet", 0, () -> made("ship 0 4;speed 10;row 0 0 0 0;row 10 999 0 0;course 100;").why());
        RudderSchedule x = made("ship 0 0;dead 0;band 100;row 0 0 99 0;rudder 450 9;course 100;");
        due("by the sum of that tick", 0, x::why);
        dueState(x, 8, 0);
        due("the wanted rudder", 9, x::wanted);
        x.pass(1);
        due("by the next sum", 19, x::wanted);
        due("beyond the rate", 3, x::why);
    }

    private static void wanted() {
        sentence("Returns the wanted rudder of the next tick, if it passed now, before it is limited.");
        RudderSchedule x = made("ship 0 0;row 0 999 99 999;band 900;rudder 10 1;course 900;");
        due("far beyond the limit and the rate", (999 * 900 + 99 * 900 / 10) / 100, x::wanted);
        x.steer(2700);
        due("far beyond to the left", -(999 * 900 + 99 * 900 / 10) / 100, x::wanted);
        x.steer(901);
        due("beyond the band", 999 * 901 / 100, x::wanted);
        dueState(x, 0, 0);
        dueState(x, 8, 0);
        due("the greatest", 999 * 1800 / 100, () -> made("ship 0 0;row 0 999 99 999;course 1800;").wanted());
        RudderSchedule spun = made("ship 0 0;row 0 0 0 999;yaw 300;");
        spun.pass(1);
        due("by the greatest rate of turn", -999 * 300 / 100, spun::wanted);
        spun.pass(1);
        spun.steer(spun.state(1));
        due("an error of 0, but a rate of turn", -999 * 300 / 100, spun::wanted);
        due("0 if all is small", 0, () -> made("ship 0 0;course 5;row 0 999 99 0;").wanted());
        due("by the speed of that tick", 15, () -> made("ship 0 0;speed 9;smooth;row 0 100 0 0;row 10 200 0 0;course 10;").wanted());
    }

    private static void meanWear() {
        sentence("Returns the wear and the time, both converted to double and divided; 0.0 at the time 0.");
        RudderSchedule x = made("ship 0 0;course 1800;rudder 450 7;");
        due("at the time 0", 0.0, x::meanWear);
        due("of a new object", 0.0, () -> new RudderSchedule().meanWear());
        x.pass(1);
        due("behind 1 tick", 7.0, x::meanWear);
        x.steer(0);
        x.pass(2);
        due("14 in 3 ticks", 14.0 / 3.0, x::meanWear);
        x.undo();
        x.undo();
        x.undo();
        due("at the time 0 again", 0.0, x::meanWear);
        loaded(x, "ship 0 0;");
        due("loaded anew", 0.0, x::meanWear);
        RudderSchedule y = new RudderSchedule();
        y.pass(9);
        due("no wear", 0.0, y::meanWear);
    }

    private static void checksumOverflows() {
        sentence("It starts at 0; each number n in the following order replaces it by 31 * checksum + n, wrapping around on overflow of "
            + "a long:");
        // Of the numbers of a new object all but these are 0: the latest alarm -1, the rows 1, P 100, D 200, why 1.
        int[] numbers = {0, 0, 0, 0, 0, 0, 0, 0, 0, 0, 0, 0, -1, 1, 0, 0, 0, 0, 100, 0, 200, 0, 1, 0};
        long sum = 0;
        for (int number : numbers) sum = 31 * sum + number;
        due("of a new object", sum, () -> new RudderSchedule().checksum());
        StringBuilder text = new StringBuilder("ship 3599 400;course 1799;");
        for (int i = 0; i < 8; i++) text.append("row ").append(i * 57).append(" 999 99 999;");
        RudderSchedule x = made(text.toString());
        due("it overflows", true, () -> byHandWithoutOverflow(x).bitLength() > 63);
        due("of 8 rows", byHand(x), x::checksum);
    }

    private static void numbersOfChecksum() {
        sentence("state(0) to state(16); for each row what row(int, int) tells of it for 0 to 3; wanted(), why(),");
        String text = "ship 100 200;course 400;smooth;row 0 90 5 80;row 150 70 3 60;row 220 99 9 99;gust 0 50 2;dead 1;off 9;";
        for (int ticks = 1; ticks < 24; ticks += 2) {
            RudderSchedule x = made(text);
            x.pass(ticks);
            due("behind " + ticks, byHand(x), x::checksum);
        }
        for (int row = 0; row < 3; row++) {
            RudderSchedule x = made(text);
            for (int[] g : new int[][] {{89, 4, 81}, {90, 4, 81}, {90, 5, 81}, {90, 5, 80}}) {
                x.gains(row, g[0], g[1], g[2]);
                due("by the gains of the row " + row, byHand(x), x::checksum);
            }
        }
    }

    private static void windOfChecksum() {
        sentence("and wind(int) of the present tick (if that is at most 20000).");
        RudderSchedule gusty = made("ship 0 0;gust 3 3 9;yaw 0;dead 90;");
        gusty.pass(3);
        due("with a wind", byHand(gusty), gusty::checksum);
        for (int beyond = -1; beyond <= 2; beyond++) {
            RudderSchedule late = new RudderSchedule();
            for (int i = 0; i < 399; i++) late.pass(50);
            late.pass(48);
            late.pass(2 + beyond);
            dueState(late, 0, 20000 + beyond);
            due("at the time " + (20000 + beyond), byHand(late), late::checksum);
        }
    }

    private static BigInteger byHandWithoutOverflow(RudderSchedule x) {
        BigInteger sum = BigInteger.ZERO;
        for (int i = 0; i <= 16; i++) sum = joined(sum, x.state(i));
        for (int row = 0; row < x.state(13); row++) {
            for (int what = 0; what < 4; what++) sum = joined(sum, x.row(row, what));
        }
        sum = joined(joined(sum, x.wanted()), x.why());
        return x.state(0) > 20000 ? sum : joined(sum, x.wind(x.state(0)));
    }

    private static BigInteger joined(BigInteger sum, int number) {
        return sum.multiply(BigInteger.valueOf(31)).add(BigInteger.valueOf(number));
    }

    private static long byHand(RudderSchedule x) {
        return byHandWithoutOverflow(x).longValue();
    }
}
