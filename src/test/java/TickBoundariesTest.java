/** The sentences of "In a tick" that name a boundary case. */
public final class TickBoundariesTest extends Checks {
    public static void main(String[] args) {
        section("Terms");
        speedByThePull();
        speedOfThisTick();
        sumInTheBand();
        sumIsLimited();
        wantedRudder();
        smallErrorAndRate();
        sumDoesNotMatter();
        rateAheadOfTheYaw();
        wantedIsLimited();
        rudderByTheRate();
        wear();
        rateOfTurnIsLimited();
        namesInTheYaw();
        divisionByZero();
        fromTheLeftToTheRight();
        resultsAreLimited();
        usualYaw();
        headingWraps();
        offCourse();
        alarmAtTheFifth();
        timePasses();
        finish();
    }

    private static void dueStates(RudderSchedule x, int what, int... wants) {
        for (int want : wants) due("state(" + what + ") at the time " + x.state(0), want, () -> behindTick(x, what));
    }

    private static void speedByThePull() {
        sentence("(1) The speed comes nearer to the ordered speed, by the pull at most (the gains and the yaw of this tick are by the "
            + "speed then).");
        dueStates(made("ship 0 100;pull 7;speed 100;"), 4, 100, 100);
        dueStates(made("ship 0 100;pull 7;speed 106;"), 4, 106, 106);
        dueStates(made("ship 0 100;pull 7;speed 107;"), 4, 107, 107);
        dueStates(made("ship 0 100;pull 7;speed 108;"), 4, 107, 108, 108);
        dueStates(made("ship 0 100;pull 7;speed 115;"), 4, 107, 114, 115, 115);
        dueStates(made("ship 0 100;pull 7;speed 94;"), 4, 94, 94);
        dueStates(made("ship 0 100;pull 7;speed 93;"), 4, 93, 93);
        dueStates(made("ship 0 100;pull 7;speed 92;"), 4, 93, 92, 92);
        dueStates(made("ship 0 3;pull 50;speed 0;"), 4, 0, 0);
        dueStates(made("ship 0 399;pull 50;speed 400;"), 4, 400, 400);
        dueStates(made("ship 0 2;pull 1;speed 0;"), 4, 1, 0, 0);
    }

    private static void speedOfThisTick() {
        sentence("(the gains and the yaw of this tick are by the speed then)");
        dueStates(made("ship 0 5;pull 5;speed 10;yaw speed;"), 2, 10);
        dueStates(made("ship 0 5;pull 5;speed 0;yaw speed;"), 2, 0);
        dueStates(made("ship 0 9;speed 10;row 0 100 0 0;row 10 200 0 0;course 10;dead 0;"), 3, 20);
        dueStates(made("ship 0 10;speed 9;row 0 100 0 0;row 10 200 0 0;course 10;dead 0;"), 3, 10);
        dueStates(made("ship 0 0;speed 5;smooth;row 0 100 0 0;row 10 200 0 0;course 10;dead 0;"), 3, 15);
        due("the wanted rudder too", 20, () -> made("ship 0 9;speed 10;row 0 100 0 0;row 10 200 0 0;course 10;dead 0;").wanted());
    }

    private static void sumInTheBand() {
        sentence("If it is -band to band (band: 0 to 900), it is added to the sum of errors, which is limited to -20000 to 20000; "
            + "otherwise the sum becomes 0.");
        for (int band : new int[] {0, 1, 100, 900}) {
            String ship = "ship 0 0;band " + band + ";course ";
            dueStates(made(ship + band + ";"), 8, band, 2 * band);
            dueStates(made(ship + (3600 - band) % 3600 + ";"), 8, -band, -2 * band);
            dueStates(made(ship + (band + 1) + ";"), 8, 0, 0);
            dueStates(made(ship + (3599 - band) + ";"), 8, 0, 0);
        }
        RudderSchedule lost = made("ship 0 0;band 10;course 10;");
        dueStates(lost, 8, 10, 20, 30);
        lost.steer(11);
        dueStates(lost, 8, 0);
        lost.steer(3590);
        dueStates(lost, 8, -10, -20);
        lost.steer(3589);
        dueStates(lost, 8, 0);
        RudderSchedule kept = made("ship 0 0;band 0;course 0;");
        dueStates(kept, 8, 0);
        dueFault("ship 0 0;band 901;", -3, 14);
        dueGood("ship 0 0;band 900;", 1);
        dueGood("ship 0 0;band 0;", 1);
    }

    private static void sumIsLimited() {
        sentence("it is added to the sum of errors, which is limited to -20000 to 20000");
        for (int sign : new int[] {1, -1}) {
            RudderSchedule x = made("ship 0 0;band 900;row 0 0 0 0;");
            x.steer((3600 + sign * 900) % 3600);
            x.pass(22);
            dueState(x, 8, sign * 19800);
            x.steer((3600 + sign * 199) % 3600);
            dueStates(x, 8, sign * 19999);
            x.steer((3600 + sign) % 3600);
            dueStates(x, 8, sign * 20000, sign * 20000);
            x.steer((3600 + sign * 900) % 3600);
            dueStates(x, 8, sign * 20000);
            x.steer((3600 - sign) % 3600);
            dueStates(x, 8, sign * 19999);
            x.steer(0);
            dueStates(x, 8, sign * 19999);
        }
    }

    private static void wantedRudder() {
        sentence("(3) The wanted rudder is (P * error + I * sum / 10 - D * rate of turn) / 100;");
        due("the greatest P and error", 999 * 1800 / 100, () -> made("ship 0 0;row 0 999 0 0;course 1800;").wanted());
        due("to the left", -999 * 1799 / 100, () -> made("ship 0 0;row 0 999 0 0;course 1801;").wanted());
        RudderSchedule sum = made("ship 0 0;row 0 0 99 0;band 900;course 900;");
        sum.pass(23);
        due("the greatest I and sum", 99 * 20000 / 10 / 100, sum::wanted);
        RudderSchedule spun = made("ship 0 0;row 0 0 0 999;yaw 300;");
        spun.pass(1);
        due("the greatest D and rate of turn", -999 * 300 / 100, spun::wanted);
        due("less than 1", 0, () -> made("ship 0 0;row 0 1 0 0;course 99;").wanted());
        due("just 1", 1, () -> made("ship 0 0;row 0 1 0 0;course 100;").wanted());
        due("less than 1 to the left", 0, () -> made("ship 0 0;row 0 1 0 0;course 3501;").wanted());
        due("just 1 to the left", -1, () -> made("ship 0 0;row 0 1 0 0;course 3500;").wanted());
        RudderSchedule all = made("ship 0 0;row 0 7 3 11;dead 0;yaw wind;gust 0 0 9;course 99;");
        all.pass(1);
        // The error is 90, the sum 99 + 90, the rate of turn 9.
        due("all three", (7 * 90 + 3 * 189 / 10 - 11 * 9) / 100, all::wanted);
        due("no gains", 0, () -> made("ship 0 0;row 0 0 0 0;course 1800;").wanted());
        // 99 * 19 / 10 is 188; from the left to the right, as 19 / 10 is 1.
        due("the sum's part", 1, () -> made("ship 0 0;row 0 0 99 0;course 19;").wanted());
        due("the sum's part to the left", -1, () -> made("ship 0 0;row 0 0 99 0;course 3581;").wanted());
    }

    private static void smallErrorAndRate() {
        sentence("but 0 if the error is -dead to dead and the rate of turn (as it is ahead of (5), as above) is -2 to 2 (dead: 0 to "
            + "90), whatever the sum of errors.");
        for (int dead : new int[] {0, 1, 5, 90}) {
            String ship = "ship 0 0;row 0 100 0 0;dead " + dead + ";course ";
            due("the error dead", 0, () -> made(ship + dead + ";").wanted());
            due("the error -dead", 0, () -> made(ship + (3600 - dead) % 3600 + ";").wanted());
            due("the error dead + 1", dead + 1, () -> made(ship + (dead + 1) + ";").wanted());
            due("the error -dead - 1", -dead - 1, () -> made(ship + (3599 - dead) + ";").wanted());
        }
        int[][] rates = {{0, 0}, {1, 0}, {2, 0}, {3, -3}, {4, -4}};
        for (int[] r : rates) {
            due("the rate of turn " + r[0], r[1], () -> turned(r[0], "dead 0;").wanted());
            due("the rate of turn -" + r[0], -r[1], () -> turned(-r[0], "dead 0;").wanted());
        }
        RudderSchedule both = turned(3, "dead 90;");
        both.steer(90 + 3);
        due("a small error, but a rate of turn 3", -3, both::wanted);
        RudderSchedule other = turned(2, "dead 90;");
        other.steer(91 + 2);
        due("a rate of turn 2, but a greater error", -2, other::wanted);
        dueFault("ship 0 0;dead 91;", -3, 14);
        dueGood("ship 0 0;dead 90;", 1);
    }

    /** A ship with this rate of turn and no error; only the gain D works. */
    private static RudderSchedule turned(int rate, String statements) {
        RudderSchedule x = made("ship 0 0;row 0 0 0 100;yaw wind;gust 0 0 " + rate + ";" + statements);
        x.pass(1);
        x.steer(x.state(1));
        return x;
    }

    private static void sumDoesNotMatter() {
        sentence("whatever the sum of errors.");
        RudderSchedule x = made("ship 0 0;band 900;dead 5;row 0 0 99 0;course 900;");
        x.pass(23);
        dueState(x, 8, 20000);
        x.steer(5);
        due("the greatest sum and the error dead", 0, x::wanted);
        x.steer(3595);
        due("the greatest sum and the error -dead", 0, x::wanted);
        x.steer(6);
        due("the greatest sum beyond dead", 99 * 20000 / 10 / 100, x::wanted);
        due("it goes on to grow", 20000, () -> behindTick(x, 8));
        x.steer(0);
        x.pass(1);
        dueState(x, 8, 20000);
    }

    private static void rateAheadOfTheYaw() {
        sentence("the rate of turn (as it is ahead of (5), as above)");
        // The rate of turn is 2 ahead of the second tick and 3 behind it, then 1 behind the third.
        RudderSchedule x = made("ship 0 0;row 0 0 0 999;dead 90;rudder 450 99;yaw wind;gust 0 0 2;gust 1 1 1;gust 2 2 -2;");
        dueStates(x, 3, 0, 0, -29);
        dueState(x, 2, 1);
        dueStates(x, 3, 0);
    }

    private static void wantedIsLimited() {
        sentence("(4) The wanted rudder is limited to -limit to limit.");
        for (int limit : new int[] {10, 99}) {
            String ship = "ship 0 0;dead 0;row 0 100 0 0;rudder " + limit + " 99;course ";
            dueStates(made(ship + (limit - 1) + ";"), 3, limit - 1, limit - 1);
            dueStates(made(ship + limit + ";"), 3, limit, limit);
            dueStates(made(ship + (limit + 1) + ";"), 3, limit, limit);
            dueStates(made(ship + (3600 - limit) + ";"), 3, -limit, -limit);
            dueStates(made(ship + (3599 - limit) + ";"), 3, -limit, -limit);
            dueStates(made(ship + "1800;"), 3, limit, limit);
            dueStates(made(ship + "1801;"), 3, -limit, -limit);
        }
        dueStates(made("ship 0 0;row 0 999 99 999;rudder 450 99;course 1800;"), 3, 99, 198, 297, 396, 450, 450);
    }

    private static void rudderByTheRate() {
        sentence("The rudder comes nearer to it, by its rate at most.");
        for (int rate : new int[] {1, 30, 99}) {
            String ship = "ship 0 0;dead 0;row 0 100 0 0;rudder 450 " + rate + ";course ";
            dueStates(made(ship + rate + ";"), 3, rate, rate);
            dueStates(made(ship + (rate + 1) + ";"), 3, rate, rate + 1, rate + 1);
            dueStates(made(ship + (3600 - rate) + ";"), 3, -rate, -rate);
            dueStates(made(ship + (3599 - rate) + ";"), 3, -rate, -rate - 1, -rate - 1);
        }
        RudderSchedule x = made("ship 0 0;dead 0;row 0 100 0 0;rudder 450 10;course 15;");
        dueStates(x, 3, 10, 15);
        x.steer(3595);
        dueStates(x, 3, 5, -5, -5);
        x.steer(0);
        dueStates(x, 3, 0, 0);
    }

    private static void wear() {
        sentence("The wear becomes greater by how much the rudder moves.");
        RudderSchedule x = made("ship 0 0;dead 0;row 0 100 0 0;rudder 450 10;course 15;");
        dueStates(x, 9, 10, 15, 15);
        x.steer(3595);
        dueStates(x, 9, 25, 35, 35);
        x.steer(0);
        dueStates(x, 9, 40, 40);
    }

    private static void rateOfTurnIsLimited() {
        sentence("(5) The rate of turn becomes greater by the yaw, and is limited to -300 to 300.");
        dueStates(made("ship 0 0;yaw 299;"), 2, 299, 300, 300);
        dueStates(made("ship 0 0;yaw 300;"), 2, 300, 300);
        dueStates(made("ship 0 0;yaw 301;"), 2, 300, 300);
        dueStates(made("ship 0 0;yaw 0-299;"), 2, -299, -300, -300);
        dueStates(made("ship 0 0;yaw 0-300;"), 2, -300, -300);
        dueStates(made("ship 0 0;yaw 0-301;"), 2, -300, -300);
        dueStates(made("ship 0 0;yaw 9999*9999;"), 2, 300, 300);
        dueStates(made("ship 0 0;yaw 0-9999*9999;"), 2, -300, -300);
        dueStates(made("ship 0 0;yaw wind*10-300;gust 1 1 60;gust 2 2 31;"), 2, -300, 0, 10);
        dueStates(made("ship 0 0;yaw 0;"), 2, 0);
        dueStates(made("ship 0 0;yaw 1;"), 2, 1, 2, 3);
    }

    private static void namesInTheYaw() {
        sentence("The yaw is the value of an expression, in which rudder is the rudder angle as it is then, speed the speed, rate "
            + "the rate of turn, and wind the wind at t.");
        dueStates(made("ship 0 0;dead 0;row 0 100 0 0;course 7;yaw rudder;"), 2, 7);
        dueStates(made("ship 0 0;dead 0;row 0 100 0 0;course 3593;yaw rudder;"), 2, -7);
        dueStates(made("ship 0 0;course 900;rudder 450 99;yaw rudder;"), 2, 99, 297);
        dueStates(made("ship 0 123;yaw speed;"), 2, 123);
        dueStates(made("ship 0 0;yaw 7-rate;"), 2, 7, 7, 7);
        dueStates(made("ship 0 0;yaw 3+rate;"), 2, 3, 9, 21);
        dueStates(made("ship 0 0;yaw wind-rate;gust 0 0 5;gust 2 3 -9;"), 2, 5, 0, -9, -9, 0);
        RudderSchedule late = made("ship 0 0;yaw wind-rate;gust 9999 9999 5;");
        for (int i = 0; i < 199; i++) late.pass(50);
        late.pass(49);
        dueState(late, 0, 9999);
        dueState(late, 2, 0);
        dueStates(late, 2, 5, 0);
    }

    private static void divisionByZero() {
        sentence("Division by 0 gives 0;");
        dueStates(made("ship 0 0;yaw 5/0;"), 2, 0);
        dueStates(made("ship 0 0;yaw 0/0;"), 2, 0);
        dueStates(made("ship 0 0;yaw (0-5)/0;"), 2, 0);
        dueStates(made("ship 0 0;yaw 5/0+8;"), 2, 8);
        dueStates(made("ship 0 0;yaw 5/0*8+1;"), 2, 1);
        dueStates(made("ship 0 0;yaw 5/0/0+1;"), 2, 1);
        dueStates(made("ship 0 0;yaw 9-5/(3-3);"), 2, 9);
        dueStates(made("ship 0 0;yaw 5/(1/2)+8;"), 2, 8);
        dueStates(made("ship 0 0;yaw 5/wind;"), 2, 0);
        dueStates(made("ship 0 0;yaw 5/rudder;"), 2, 0);
        dueStates(made("ship 0 0;yaw 5/speed;"), 2, 0);
        dueStates(made("ship 0 0;yaw 5/rate+6;"), 2, 6, 12);
    }

    private static void fromTheLeftToTheRight() {
        sentence("the operations of one sum or term are made from the left to the right");
        dueStates(made("ship 0 0;yaw 20-3-4;"), 2, 13);
        dueStates(made("ship 0 0;yaw 20-3+4;"), 2, 21);
        dueStates(made("ship 0 0;yaw 100/7*7;"), 2, 98);
        dueStates(made("ship 0 0;yaw 100/7/3;"), 2, 4);
        dueStates(made("ship 0 0;yaw 7*9/2*2;"), 2, 62);
        dueStates(made("ship 0 0;yaw 100/(7*7);"), 2, 2);
        dueStates(made("ship 0 0;yaw 9-2*3-1;"), 2, 2);
        dueStates(made("ship 0 0;yaw 9-8/2/2-1;"), 2, 6);
        dueStates(made("ship 0 0;yaw 2*(3+4)*5;"), 2, 70);
        dueStates(made("ship 0 0;yaw (9-2)-(3-1);"), 2, 5);
    }

    private static void resultsAreLimited() {
        sentence("and the result of each one is limited to the range -1000000 to 1000000.");
        dueStates(made("ship 0 0;yaw 1000*1000-9999*100+0;"), 2, 100);
        dueStates(made("ship 0 0;yaw 1000*999+999-9999*100;"), 2, 99);
        dueStates(made("ship 0 0;yaw 1000*999+1000-9999*100;"), 2, 100);
        dueStates(made("ship 0 0;yaw 1000*999+1001-9999*100;"), 2, 100);
        dueStates(made("ship 0 0;yaw 1001*1000-9999*100;"), 2, 100);
        dueStates(made("ship 0 0;yaw 9999*9999*9999*9999-9999*100;"), 2, 100);
        dueStates(made("ship 0 0;yaw 0-1000*999-1000+9999*100;"), 2, -100);
        dueStates(made("ship 0 0;yaw 0-1000*999-1001+9999*100;"), 2, -100);
        dueStates(made("ship 0 0;yaw (0-1001)*1000+9999*100;"), 2, -100);
        dueStates(made("ship 0 0;yaw (0-9999)*9999*9999+9999*100;"), 2, -100);
        dueStates(made("ship 0 0;yaw (0-9999)*9999*(0-9999)-9999*100;"), 2, 100);
        dueStates(made("ship 0 0;yaw 2000*2000/5000;"), 2, 200);
        dueStates(made("ship 0 0;yaw (0-2000)*2000/5000;"), 2, -200);
        dueStates(made("ship 0 0;yaw 9999*100+9999*100+9999*100-9999*100;"), 2, 100);
        dueStates(made("ship 0 0;yaw (9999*100+(9999*100))/(5000)-(0);"), 2, 200);
    }

    private static void usualYaw() {
        sentence("Without a yaw statement the yaw is rudder * speed / 2000 - rate / 3 + wind, as such an expression.");
        // Full rudder by 450 at the speed 400 yields 90 - rate / 3.
        RudderSchedule fast = made("ship 0 400;rudder 450 99;row 0 999 0 0;course 1800;off 1800;");
        RudderSchedule written = made("ship 0 400;rudder 450 99;row 0 999 0 0;course 1800;off 1800;yaw rudder*speed/2000-rate/3+wind;");
        dueStates(fast, 2, 19, 19 + 39 - 6, 52 + 59 - 17, 94 + 79 - 31, 142 + 90 - 47);
        for (int i = 0; i < 40; i++) {
            int ticks = i + 1;
            due("foretold rate of turn behind " + (5 + ticks), written.foretold(5 + ticks, 1), () -> fast.foretold(ticks, 1));
        }
        // 3999 / 2000 and 4000 / 2000
        dueStates(made("ship 0 129;rudder 450 31;course 900;"), 2, 1);
        dueStates(made("ship 0 125;rudder 450 32;course 900;"), 2, 2);
        dueStates(made("ship 0 99;rudder 450 20;course 900;"), 2, 0, 1);
        dueStates(made("ship 0 100;rudder 450 20;course 900;"), 2, 1, 1 + 2);
        dueStates(made("ship 0 100;rudder 450 20;course 2700;"), 2, -1, -1 - 2);
        dueStates(made("ship 0 0;gust 0 0 2;gust 2 2 1;gust 5 5 -9;"), 2, 2, 2, 3, 2, 2, -7, -5, -4, -3, -2, -2);
    }

    private static void headingWraps() {
        sentence("(6) The heading becomes greater by the rate of turn, and wraps around into 0 to 3599.");
        int[][] want = {{3598, 1, 3599}, {3599, 1, 0}, {3599, 2, 1}, {3300, 300, 0}, {3301, 300, 1}, {3299, 300, 3599},
            {3599, 300, 299}, {1, -1, 0}, {0, -1, 3599}, {0, -300, 3300}, {299, -300, 3599}, {300, -300, 0}, {0, 0, 0}, {3599, 0, 3599}};
        for (int[] w : want) {
            String yaw = w[1] < 0 ? "0-" + -w[1] : "" + w[1];
            dueBehindTick("ship " + w[0] + " 0;yaw " + yaw + ";", 1, w[2]);
            due("foretold from " + w[0] + " by " + w[1], w[2], () -> made("ship " + w[0] + " 0;yaw " + yaw + ";").foretold(1, 0));
        }
        RudderSchedule round = made("ship 0 0;yaw 300;");
        due("12 ticks are a full circle", 0, () -> round.foretold(12, 0));
        due("24 ticks are two", 0, () -> round.foretold(24, 0));
        due("11 ticks are not", 3300, () -> round.foretold(11, 0));
    }

    private static void offCourse() {
        sentence("(7) If the error of (2) is less than -off or greater than off (off: 1 to 1800), the ticks off course become "
            + "greater by 1, otherwise 0.");
        for (int off : new int[] {1, 300, 1798}) {
            String ship = "ship 0 0;off " + off + ";course ";
            dueStates(made(ship + off + ";"), 10, 0, 0);
            dueStates(made(ship + (off + 1) + ";"), 10, 1, 2);
            dueStates(made(ship + (3600 - off) + ";"), 10, 0, 0);
            dueStates(made(ship + (3599 - off) + ";"), 10, 1, 2);
        }
        dueStates(made("ship 0 0;off 1799;course 1800;"), 10, 1, 2);
        dueStates(made("ship 0 0;off 1799;course 1801;"), 10, 0, 0);
        dueStates(made("ship 0 0;off 1800;course 1800;"), 10, 0, 0);
        dueStates(made("ship 0 0;off 1800;course 1801;"), 10, 0, 0);
        RudderSchedule back = made("ship 0 0;off 10;course 11;");
        dueStates(back, 10, 1, 2, 3);
        back.steer(10);
        dueStates(back, 10, 0);
        back.steer(3589);
        dueStates(back, 10, 1);
        // The tick itself turns the ship; the error ahead of the turn counts.
        dueStates(made("ship 0 0;off 10;course 10;yaw 5-rate;"), 10, 0, 0, 0, 0, 0, 1);
        dueStates(made("ship 0 0;off 10;course 11;yaw 5-rate;"), 10, 1, 0);
        dueFault("ship 0 0;off 0;", -3, 13);
        dueFault("ship 0 0;off 1801;", -3, 13);
    }

    private static void alarmAtTheFifth() {
        sentence("If they become 5 by that (not if they are more), an alarm is given: the number of alarms becomes greater by 1, and "
            + "this tick is kept as that of the latest alarm.");
        RudderSchedule x = made("ship 0 0;off 10;course 11;");
        dueStates(x, 11, 0, 0, 0, 0, 1, 1, 1, 1, 1, 1, 1);
        dueState(x, 10, 11);
        dueState(x, 12, 4);
        x.steer(0);
        dueStates(x, 11, 1);
        x.steer(3589);
        dueStates(x, 11, 1, 1, 1, 1, 2, 2);
        dueState(x, 12, 16);
        RudderSchedule four = made("ship 0 0;off 10;");
        for (int i = 0; i < 3; i++) {
            four.steer(500);
            four.pass(4);
            four.steer(0);
            four.pass(1);
        }
        dueState(four, 11, 0);
        dueState(four, 12, -1);
        RudderSchedule side = made("ship 0 0;off 10;course 900;");
        side.pass(3);
        side.steer(2700);
        dueStates(side, 11, 0, 1, 1);
        RudderSchedule late = made("ship 0 0;off 10;");
        late.pass(37);
        late.steer(11);
        due("pass tells the alarm", 1, () -> late.pass(50));
        dueState(late, 12, 41);
    }

    private static void timePasses() {
        sentence("(8) The time becomes greater by 1.");
        dueStates(new RudderSchedule(), 0, 1, 2, 3);
        RudderSchedule x = new RudderSchedule();
        for (int i = 0; i < 401; i++) x.pass(50);
        dueState(x, 0, 20050);
    }
}
