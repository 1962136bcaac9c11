/** The sentences that name a boundary case in "What it is" and, in "Terms", of conventions, ship, schedule and wind. */
public final class TermsBoundariesTest extends Checks {
    private static final String THREE_ROWS = "row 0 10 1 30;row 60 20 2 20;row 120 5 0 999;";

    public static void main(String[] args) {
        section("What it is");
        callsOfAnObject();
        section("Terms");
        divisionRoundsTowardZero();
        timeIsZeroAtFirst();
        rangeOfAngles();
        rangeOfSpeeds();
        limitedNumbers();
        zeroAtFirst();
        rangesOfRudderAndEngine();
        errorWraps();
        shorterWayRound();
        countOfRows();
        rangesOfGains();
        rowInUse();
        gainsInUse();
        windIsASum();
        rangesOfGusts();
        finish();
    }

    private static void callsOfAnObject() {
        sentence("An object is used for at most 512 calls after it has been made; what later calls answer is free.");
        RudderSchedule passes = new RudderSchedule();
        for (int i = 0; i < 511; i++) passes.pass(50);
        due("the 512th call, behind 511 of pass", 511 * 50, () -> passes.state(0));
        RudderSchedule loads = new RudderSchedule();
        for (int i = 0; i < 255; i++) {
            due("append before load " + i, 20, () -> loads.append(0x73686970, 0x37203920, 0x3b796177, 0x28283129, 0x292a353b));
            due("load " + i, 1, () -> loads.load(20));
        }
        due("the 511th call, behind 255 of append and 255 of load", 5, () -> loads.foretold(1, 1));
        due("the 512th call", 7, loads::undo);
        RudderSchedule changes = new RudderSchedule();
        for (int i = 0; i < 504; i++) changes.steer(i);
        for (int i = 0; i < 8; i++) {
            int left = 7 - i;
            due("call " + (505 + i) + ", undo", left, changes::undo);
        }
        RudderSchedule tuned = new RudderSchedule();
        tuned.order(100);
        tuned.steer(500);
        int want = tuned.tunes(0, 100);
        for (int i = 0; i < 509; i++) due("tunes again", want, () -> tuned.tunes(0, 100));
    }

    private static void divisionRoundsTowardZero() {
        sentence("Division rounds toward zero.");
        RudderSchedule x = made("ship 0 0;dead 0;band 0;row 0 1 0 0;");
        int[][] wanted = {{99, 0}, {100, 1}, {199, 1}, {200, 2}, {3501, 0}, {3500, -1}, {3401, -1}, {3400, -2}};
        for (int[] w : wanted) {
            x.steer(w[0]);
            due("wanted at the course " + w[0], w[1], x::wanted);
        }
        // 7 * 14 + 14 / 10 is 99; rounded away from zero it would be 100.
        due("the part of the sum to the right", 0, () -> made("ship 0 0;dead 0;row 0 7 1 0;course 14;").wanted());
        due("the part of the sum to the left", 0, () -> made("ship 0 0;dead 0;row 0 7 1 0;course 3586;").wanted());
        due("a rising gain", 13, () -> made("ship 0 0;smooth;row 0 10 0 0;row 3 20 0 0;").gain(1, 1));
        due("a falling gain", 7, () -> made("ship 0 0;smooth;row 0 10 0 0;row 3 0 0 0;").gain(1, 1));
        dueBehindTick("ship 0 0;yaw 7/2;", 2, 3);
        dueBehindTick("ship 0 0;yaw (0-7)/2;", 2, -3);
        dueBehindTick("ship 0 0;yaw 7/(0-2);", 2, -3);
        dueBehindTick("ship 0 0;yaw (0-7)/(0-2);", 2, 3);
        // The usual yaw: 30 * 100 / 2000 is 1.5.
        dueBehindTick("ship 0 100;course 900;", 2, 1);
        dueBehindTick("ship 0 100;course 2700;", 2, -1);
        RudderSchedule turning = made("ship 0 0;gust 0 0 -8;");
        due("the usual yaw at the first tick", -8, () -> behindTick(turning, 2));
        due("the usual yaw by -8 / 3", -8 + 2, () -> behindTick(turning, 2));
    }

    private static void timeIsZeroAtFirst() {
        sentence("Time is counted in ticks, 0 at first.");
        RudderSchedule x = new RudderSchedule();
        dueState(x, 0, 0);
        x.pass(1);
        dueState(x, 0, 1);
        x.pass(50);
        dueState(x, 0, 51);
        loaded(x, "ship 0 0;");
        dueState(x, 0, 0);
    }

    private static void rangeOfAngles() {
        sentence("Angles are counted in tenths of a degree: a heading and a course are 0 to 3599; rudder angles and rates of turn "
            + "are greater than 0 to the right.");
        RudderSchedule x = made("ship 0 0;course 3599;");
        dueState(x, 1, 0);
        dueState(x, 5, 3599);
        due("steer(0)", 0, () -> x.steer(0));
        due("steer(3599)", -1, () -> x.steer(3599));
        due("steer(3600)", BAD_ARGUMENT, () -> x.steer(3600));
        due("steer(-1)", BAD_ARGUMENT, () -> x.steer(-1));
        dueState(made("ship 3599 0;"), 1, 3599);
        dueFault("ship 3600 0;", -3, 5);
        dueFault("ship 0 0;course 3600;", -3, 16);
        due("error of the heading 3600", BAD_ARGUMENT, () -> x.error(3600, 0));
        due("error of the course 3600", BAD_ARGUMENT, () -> x.error(0, 3600));
        RudderSchedule right = made("ship 0 100;course 1;dead 0;row 0 999 0 0;yaw rudder;");
        due("a rudder to the right", 9, () -> behindTick(right, 3));
        dueState(right, 2, 9);
        dueState(right, 1, 9);
        RudderSchedule left = made("ship 0 100;course 3599;dead 0;row 0 999 0 0;yaw rudder;");
        due("a rudder to the left", -9, () -> behindTick(left, 3));
        dueState(left, 2, -9);
        dueState(left, 1, 3591);
    }

    private static void rangeOfSpeeds() {
        sentence("Speeds are counted in tenths of a knot, 0 to 400.");
        RudderSchedule x = made("ship 0 400;speed 0;");
        dueState(x, 4, 400);
        dueState(x, 6, 0);
        dueState(made("ship 0 0;speed 400;"), 6, 400);
        dueFault("ship 0 401;", -3, 7);
        dueFault("ship 0 0;speed 401;", -3, 15);
        due("order(400)", 0, () -> x.order(400));
        due("order(0)", 80, () -> x.order(0));
        due("order(401)", BAD_ARGUMENT, () -> x.order(401));
        due("order(-1)", BAD_ARGUMENT, () -> x.order(-1));
        due("gain(0, 1)", 100, () -> x.gain(0, 1));
        due("gain(400, 1)", 100, () -> x.gain(400, 1));
        due("gain(401, 1)", BAD_ARGUMENT, () -> x.gain(401, 1));
        due("gain(-1, 1)", BAD_ARGUMENT, () -> x.gain(-1, 1));
        due("a row of the speed 400", 400, () -> made("ship 0 0;row 0 1 1 1;row 400 1 1 1;").row(1, 0));
        dueFault("ship 0 0;row 0 1 1 1;row 401 1 1 1;", -3, 25);
    }

    private static void limitedNumbers() {
        sentence("A number that is limited to a range becomes the nearer bound if it is outside of it.");
        dueBehindTick("ship 0 0;yaw 301;", 2, 300);
        dueBehindTick("ship 0 0;yaw 0-301;", 2, -300);
        dueBehindTick("ship 0 0;rudder 10 99;course 11;row 0 100 0 0;", 3, 10);
        dueBehindTick("ship 0 0;rudder 10 99;course 3589;row 0 100 0 0;", 3, -10);
        dueBehindTick("ship 0 0;yaw 1000*1000+9-9999*100;", 2, 100);
        dueBehindTick("ship 0 0;yaw 0-1000*1000-9+9999*100;", 2, -100);
        RudderSchedule x = made("ship 0 0;band 900;course 900;row 0 0 0 0;");
        x.pass(23);
        dueState(x, 8, 20000);
        x.steer(2700);
        x.pass(45);
        dueState(x, 8, -20000);
    }

    private static void zeroAtFirst() {
        sentence("The ship has a heading, a rate of turn (0 at first), a rudder angle (0 at first), a speed, and a sum of errors "
            + "(0 at first).");
        String text = "ship 70 9;course 120;dead 0;row 0 100 0 0;yaw 5;";
        RudderSchedule x = made(text);
        for (int what : new int[] {2, 3, 8}) dueState(x, what, 0);
        x.pass(1);
        dueState(x, 2, 5);
        dueState(x, 3, 30);
        dueState(x, 8, 50);
        due("the load again", 1, () -> loaded(x, text));
        for (int what : new int[] {2, 3, 8}) dueState(x, what, 0);
        dueState(x, 1, 70);
        dueState(x, 4, 9);
        RudderSchedule y = new RudderSchedule();
        for (int what : new int[] {2, 3, 8}) dueState(y, what, 0);
    }

    private static void rangesOfRudderAndEngine() {
        sentence("The rudder has a limit (10 to 450) and a rate (1 to 99); the engine has a pull (1 to 50).");
        RudderSchedule least = made("ship 0 0;rudder 10 1;pull 1;row 0 999 0 0;course 1800;");
        due("the rate 1", 1, () -> least.foretold(1, 2));
        due("below the limit 10", 9, () -> least.foretold(9, 2));
        due("the limit 10", 10, () -> least.foretold(11, 2));
        due("the pull 1", 2, () -> least.order(2));
        RudderSchedule most = made("ship 0 0;rudder 450 99;pull 50;row 0 999 0 0;course 1800;");
        due("the rate 99", 99, () -> most.foretold(1, 2));
        due("below the limit 450", 396, () -> most.foretold(4, 2));
        due("the limit 450", 450, () -> most.foretold(5, 2));
        due("the pull 50", 1, () -> most.order(50));
        due("beyond the pull 50", 2, () -> most.order(51));
        dueFault("ship 0 0;rudder 9 1;", -3, 16);
        dueFault("ship 0 0;rudder 451 1;", -3, 16);
        dueFault("ship 0 0;rudder 10 0;", -3, 19);
        dueFault("ship 0 0;rudder 10 100;", -3, 19);
        dueFault("ship 0 0;pull 0;", -3, 14);
        dueFault("ship 0 0;pull 51;", -3, 14);
    }

    private static void errorWraps() {
        sentence("The error is course - heading, plus 3600 if that is less than -1799, minus 3600 if it is greater than 1800.");
        int[][] want = {{0, 0, 0}, {3599, 3599, 0}, {1799, 0, -1799}, {1800, 0, 1800}, {1801, 0, 1799}, {3599, 0, 1},
            {3598, 0, 2}, {0, 1799, 1799}, {0, 1800, 1800}, {0, 1801, -1799}, {0, 3599, -1}, {3599, 1800, -1799},
            {3599, 1799, 1800}, {3599, 1798, 1799}, {1800, 3599, 1799}, {1799, 3599, 1800}, {1798, 3599, -1799}};
        RudderSchedule x = new RudderSchedule();
        for (int[] w : want) {
            due("error(" + w[0] + ", " + w[1] + ")", w[2], () -> x.error(w[0], w[1]));
            dueState(made("ship " + w[0] + " 0;course " + w[1] + ";"), 7, w[2]);
            due("steer from " + w[0] + " to " + w[1], w[2], () -> made("ship " + w[0] + " 0;").steer(w[1]));
        }
    }

    private static void shorterWayRound() {
        sentence("(So the shorter way round is taken, and the right one if both are equally long.)");
        for (int heading = 0; heading < 3600; heading += 3) {
            int from = heading;
            RudderSchedule x = new RudderSchedule();
            due("equally long from " + from, 1800, () -> x.error(from, (from + 1800) % 3600));
            due("shorter to the left from " + from, -1799, () -> x.error(from, (from + 1801) % 3600));
            due("shorter to the right from " + from, 1799, () -> x.error(from, (from + 1799) % 3600));
        }
        for (int heading : new int[] {0, 1799, 1800, 3599}) {
            String ship = "ship " + heading + " 0;course ";
            dueBehindTick(ship + (heading + 1800) % 3600 + ";", 3, 30);
            dueBehindTick(ship + (heading + 1799) % 3600 + ";", 3, 30);
            dueBehindTick(ship + (heading + 1801) % 3600 + ";", 3, -30);
        }
    }

    private static void countOfRows() {
        sentence("The schedule has 1 to 8 rows, by rising speeds; the first one has the speed 0.");
        dueState(new RudderSchedule(), 13, 1);
        StringBuilder text = new StringBuilder("ship 0 0;");
        for (int rows = 1; rows <= 8; rows++) {
            text.append("row ").append(rows - 1).append(" 1 1 1;");
            dueGood(text.toString(), rows);
            dueState(made(text.toString()), 13, rows);
        }
        dueFault(text + "row 8 1 1 1;", -4, text.length());
        dueFault("ship 0 0;row 1 1 1 1;", -3, 13);
        dueFault("ship 0 0;row 0 1 1 1;row 0 1 1 1;", -3, 25);
        dueFault("ship 0 0;row 0 1 1 1;row 7 1 1 1;row 6 1 1 1;", -3, 37);
        dueFault("ship 0 0;row 0 1 1 1;row 7 1 1 1;row 7 1 1 1;", -3, 37);
        dueGood("ship 0 0;row 0 1 1 1;row 7 1 1 1;row 8 1 1 1;", 3);
        due("the first one's speed", 0, () -> made("ship 0 0;row 0 1 1 1;row 7 1 1 1;").row(0, 0));
        due("the usual one's speed", 0, () -> made("ship 0 50;").row(0, 0));
    }

    private static void rangesOfGains() {
        sentence("A row has a speed and the gains P (0 to 999), I (0 to 99) and D (0 to 999).");
        RudderSchedule x = made("ship 0 0;row 0 0 0 0;row 5 999 99 999;");
        int[][] want = {{0, 0, 0, 0}, {5, 999, 99, 999}};
        for (int row = 0; row < 2; row++) {
            for (int what = 0; what < 4; what++) {
                int r = row;
                int w = what;
                due("row(" + r + ", " + w + ")", want[r][w], () -> x.row(r, w));
            }
        }
        dueFault("ship 0 0;row 0 1000 0 0;", -3, 15);
        dueFault("ship 0 0;row 0 0 100 0;", -3, 17);
        dueFault("ship 0 0;row 0 0 0 1000;", -3, 19);
        due("gains to the most", 999, () -> x.gains(0, 999, 99, 999));
        due("gains to the least", 0, () -> x.gains(0, 0, 0, 0));
        due("P beyond", BAD_ARGUMENT, () -> x.gains(0, 1000, 0, 0));
        due("I beyond", BAD_ARGUMENT, () -> x.gains(0, 0, 100, 0));
        due("D beyond", BAD_ARGUMENT, () -> x.gains(0, 0, 0, 1000));
    }

    private static void rowInUse() {
        sentence("The row in use is the last one whose speed is not greater than that of the ship.");
        int[][] want = {{0, 0}, {59, 0}, {60, 1}, {61, 1}, {119, 1}, {120, 2}, {121, 2}, {400, 2}};
        for (int[] w : want) {
            dueState(made("ship 0 " + w[0] + ";" + THREE_ROWS), 16, w[1]);
            dueState(made("ship 0 " + w[0] + ";smooth;" + THREE_ROWS), 16, w[1]);
            int p = new int[] {10, 20, 5}[w[1]];
            due("gain(" + w[0] + ", 1)", p, () -> made("ship 0 0;" + THREE_ROWS).gain(w[0], 1));
        }
        dueState(made("ship 0 400;"), 16, 0);
        StringBuilder eight = new StringBuilder("ship 0 400;row 0 1 1 1;");
        for (int i = 394; i <= 400; i++) eight.append("row ").append(i).append(" 1 1 1;");
        dueState(made(eight.toString()), 16, 7);
        dueState(made(eight.toString().replace("ship 0 400", "ship 0 399")), 16, 6);
    }

    private static void gainsInUse() {
        sentence("The gains in use are those of this row, or, if the schedule is smooth and there is a next row, for each of the "
            + "three: its gain + (gain of the next row - its gain) * (speed of the ship - its speed) / (speed of the next row - its "
            + "speed).");
        RudderSchedule steps = made("ship 0 0;" + THREE_ROWS);
        RudderSchedule smooth = made("ship 0 0;smooth;" + THREE_ROWS);
        int[][] stepsWant = {{0, 10, 1, 30}, {59, 10, 1, 30}, {60, 20, 2, 20}, {119, 20, 2, 20}, {120, 5, 0, 999}, {400, 5, 0, 999}};
        // 10 + 10 * 59 / 60; 1 + 1 * 59 / 60; 30 - 10 * 59 / 60; 20 - 15 * 59 / 60; 2 - 2 * 59 / 60; 20 + 979 * 59 / 60
        int[][] smoothWant = {{0, 10, 1, 30}, {1, 10, 1, 30}, {30, 15, 1, 25}, {59, 19, 1, 21}, {60, 20, 2, 20}, {61, 20, 2, 36},
            {119, 6, 1, 982}, {120, 5, 0, 999}, {121, 5, 0, 999}, {400, 5, 0, 999}};
        for (int[] w : stepsWant) dueGains(steps, w);
        for (int[] w : smoothWant) dueGains(smooth, w);
        dueGains(made("ship 0 0;smooth;row 0 3 4 5;"), new int[] {400, 3, 4, 5});
        StringBuilder eight = new StringBuilder("ship 0 0;smooth;");
        for (int i = 0; i < 8; i++) eight.append("row ").append(i * 50).append(' ').append(i * 100).append(" 9 9;");
        RudderSchedule full = made(eight.toString());
        dueGains(full, new int[] {349, 698, 9, 9});
        dueGains(full, new int[] {350, 700, 9, 9});
        dueGains(full, new int[] {400, 700, 9, 9});
        // A setup with fewer rows leaves no next row of the old one behind.
        due("fewer rows", 2, () -> loaded(full, "ship 0 0;smooth;row 0 3 4 5;row 10 6 7 8;"));
        dueGains(full, new int[] {40, 6, 7, 8});
        due("wanted by the gains of each of the three", (19 * 100 + 100 / 10) / 100,
            () -> made("ship 0 59;smooth;course 100;" + THREE_ROWS).wanted());
    }

    private static void windIsASum() {
        sentence("The wind at a tick is the sum of the strengths of all gusts that cover it.");
        due("no gust", 0, () -> new RudderSchedule().wind(0));
        RudderSchedule x = made("ship 0 0;gust 3 5 7;gust 5 5 -20;gust 5 8 1;");
        int[] want = {0, 0, 0, 7, 7, -12, 1, 1, 1, 0, 0};
        for (int tick = 0; tick < want.length; tick++) {
            int t = tick;
            due("wind(" + t + ")", want[t], () -> x.wind(t));
        }
        String most = "ship 0 0;" + repeated("gust 0 9999 99;", 8);
        due("8 of the greatest strength", 8 * 99, () -> made(most).wind(9999));
        due("8 of the least strength", -8 * 99, () -> made(most.replace(" 99;", " -99;")).wind(0));
    }

    private static void rangesOfGusts() {
        sentence("There are at most 8 gusts, each with a first tick, a last tick (0 to 9999) and a strength (-99 to 99).");
        dueState(new RudderSchedule(), 14, 0);
        RudderSchedule x = made("ship 0 0;" + repeated("gust 0 9999 99;", 7));
        dueState(x, 14, 7);
        due("the 8th", 7 * 99 - 99, () -> x.gust(0, 9999, -99));
        dueState(x, 14, 8);
        due("the 9th", BAD_STATE, () -> x.gust(0, 9999, -99));
        dueState(x, 14, 8);
        String full = "ship 0 0;" + repeated("gust 9999 9999 -99;", 8);
        dueState(made(full), 14, 8);
        dueFault(full + "gust 0 0 0;", -4, full.length());
        due("wind(9999)", -8 * 99, () -> made(full).wind(9999));
        due("wind(9998)", 0, () -> made(full).wind(9998));
        dueFault("ship 0 0;gust 10000 10000 0;", -3, 14);
        dueFault("ship 0 0;gust 0 10000 0;", -3, 16);
        dueFault("ship 0 0;gust 0 0 100;", -3, 18);
        dueFault("ship 0 0;gust 0 0 -100;", -3, 18);
        RudderSchedule y = new RudderSchedule();
        due("the strength 100", BAD_ARGUMENT, () -> y.gust(0, 0, 100));
        due("the strength -100", BAD_ARGUMENT, () -> y.gust(0, 0, -100));
        due("the tick 10000", BAD_ARGUMENT, () -> y.gust(0, 10000, 0));
        due("the tick -1", BAD_ARGUMENT, () -> y.gust(-1, 0, 0));
    }
}
