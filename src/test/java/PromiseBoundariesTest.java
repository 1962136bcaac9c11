import java.math.BigInteger;

/** The sentences of the promises that name a boundary case; those of undo stand in ChangesBoundariesTest. */
public final class PromiseBoundariesTest extends Checks {
    private static final String NO_INDEX = "Throws `IndexOutOfBoundsException` if there is no such row";

    public static void main(String[] args) {
        newObject();
        append();
        load();
        errorOffset();
        state();
        row();
        gain();
        wind();
        error();
        why();
        wanted();
        foretold();
        settles();
        swings();
        tunes();
        meanWear();
        pass();
        steer();
        order();
        gust();
        gains();
        smooth();
        checksum();
        finish();
    }

    private interface IntCall {
        Object of(int number) throws Exception;
    }

    /** The test of words that name a range: its ends and its middle are taken, the next numbers beyond are refused. */
    private static void range(String words, int low, int high, String exception, IntCall call) {
        sentence(words);
        for (int taken : new int[] {low, (low + high) / 2, high}) {
            due(taken + " throws", false, () -> answerOf(() -> call.of(taken)).startsWith("throws."));
        }
        due("" + (low - 1), exception, () -> call.of(low - 1));
        due("" + (high + 1), exception, () -> call.of(high + 1));
    }

    /** Numbers just beyond the range from low to high, and the wildest ones, are refused; the ends of it are not. */
    private static void dueRefused(String what, int low, int high, String exception, IntCall call) {
        for (int refused : new int[] {low - 1, high + 1, high + 100000, Integer.MIN_VALUE, Integer.MIN_VALUE + 1, Integer.MAX_VALUE}) {
            due(what + " of " + refused, exception, () -> call.of(refused));
        }
        for (int taken : new int[] {low, high}) {
            due(what + " of " + taken + " throws", false, () -> answerOf(() -> call.of(taken)).startsWith("throws."));
        }
    }

    private static void newObject() {
        section("Promise 1: A new object");
        sentence("Creates an object as by the text \"ship 0 0;\", with an empty input buffer.");
        RudderSchedule x = new RudderSchedule();
        due("load(1)", BAD_ARGUMENT, () -> x.load(1));
        due("the first append", 20, () -> x.append(0, 0, 0, 0, 0));
        due("load(21)", BAD_ARGUMENT, () -> x.load(21));
        int[] want = {0, 0, 0, 0, 0, 0, 0, 0, 0, 0, 0, 0, -1, 1, 0, 0, 0};
        for (int i = 0; i < want.length; i++) dueState(x, i, want[i]);
        due("checksum()", made("ship 0 0;").checksum(), x::checksum);
        due("load(0)", -2, () -> new RudderSchedule().load(0));
        RudderSchedule other = new RudderSchedule();
        other.pass(9);
        other.append(1, 2, 3, 4, 5);
        due("another object knows nothing of it", BAD_ARGUMENT, () -> new RudderSchedule().load(20));
    }

    private static void append() {
        section("Promise 2: append");
        sentence("Appends 20 bytes to the input buffer: the 4 bytes of each argument, the most significant byte first.");
        RudderSchedule x = new RudderSchedule();
        due("append(..)", 20, () -> x.append(0x73686970, 0x33352034, 0x303b6f66, 0x66203132, 0x33343b20));
        due("load(20)", 1, () -> x.load(20));
        dueState(x, 1, 35);
        dueState(x, 4, 40);
        for (int place = 0; place < 20; place++) {
            // A letter at this place alone: all other bytes are spaces.
            int[] w = {0x20202020, 0x20202020, 0x20202020, 0x20202020, 0x20202020};
            w[place / 4] += 0x50 << (24 - place % 4 * 8);
            RudderSchedule y = new RudderSchedule();
            y.append(w[0], w[1], w[2], w[3], w[4]);
            due("load of a letter at " + place, -2, () -> y.load(20));
            due("errorOffset()", place, y::errorOffset);
        }
        RudderSchedule high = new RudderSchedule();
        high.append(-1, -1, -1, -1, -1);
        due("bytes 255", -2, () -> high.load(20));
        due("errorOffset()", 0, high::errorOffset);
        high.append(Integer.MIN_VALUE, 0, 0, 0, 0);
        due("byte 128", -2, () -> high.load(1));
        due("errorOffset()", 0, high::errorOffset);

        sentence("Returns the new length of the buffer; -1 if it would exceed 500 bytes, and the buffer is unchanged then.");
        RudderSchedule full = new RudderSchedule();
        for (int i = 1; i <= 24; i++) due("append " + i, 20 * i, () -> full.append(0x20202020, 0x20202020, 0x20202020, 0x20202020, 0x20202020));
        due("append to 500 bytes", 500, () -> full.append(0x73686970, 0x37203920, 0x3b202020, 0x20202020, 0x2020203b));
        for (int i = 0; i < 3; i++) due("append beyond", -1, () -> full.append(-1, -1, -1, -1, -1));
        due("load(501)", BAD_ARGUMENT, () -> full.load(501));
        due("the last byte is the old one", -2, () -> full.load(500));
        due("errorOffset()", 499, full::errorOffset);
        due("append to the empty buffer", 20, () -> full.append(0, 0, 0, 0, 0));
    }

    private static void load() {
        section("Promise 3: load");
        sentence("Reads the first bytes of the input buffer as a setup text and replaces all data by it; the time is 0.");
        RudderSchedule x = made("ship 5 6;course 900;speed 100;smooth;row 0 1 2 3;row 9 8 7 6;gust 0 99 1;off 1;yaw wind;band 900;dead 0;");
        x.pass(50);
        fill(x, "ship 7 8;smooth;");
        due("load of the first 9 bytes", 1, () -> x.load(9));
        int[] want = {0, 7, 0, 0, 8, 7, 8, 0, 0, 0, 0, 0, -1, 1, 0, 0, 0};
        for (int i = 0; i < want.length; i++) dueState(x, i, want[i]);
        due("checksum()", made("ship 7 8;").checksum(), x::checksum);
        due("no wind of the old text", 0, () -> x.wind(50));
        due("no yaw of the old text", 0, () -> x.foretold(9, 1));
        fill(x, "ship 7 8;");
        due("load of all but the last byte", -2, () -> x.load(8));
        // Nothing of a text with an error gets into the next one.
        for (String text : new String[] {"yaw 7*(8+(9", "yaw 7*", "yaw (((((", "yaw 1+2*(3-4*x", "smooth;yaw 1;row 0 9 9 9;gust 0 0 9;x", "dead 91"}) {
            due("load of " + text, true, () -> loaded(x, "ship 9 9;" + text) < 0);
            due("load behind " + text, 1, () -> loaded(x, "ship 7 8;yaw ((((1+2))))*3-4;"));
            dueAlike(x, made("ship 7 8;yaw ((((1+2))))*3-4;"));
            due("the yaw", 5, () -> x.foretold(1, 1));
        }

        sentence("The input buffer is empty afterwards, also if the text has an error.");
        RudderSchedule y = new RudderSchedule();
        fill(y, "ship 0 0;          ship 7 8;           ");
        due("a part without an error", 1, () -> y.load(9));
        due("nothing is left", BAD_ARGUMENT, () -> y.load(1));
        fill(y, "x                  ship 7 8;           ");
        due("a part with an error", -2, () -> y.load(1));
        due("nothing is left", BAD_ARGUMENT, () -> y.load(1));
        due("append behind it", 20, () -> y.append(0, 0, 0, 0, 0));
        due("load(0)", -2, () -> y.load(0));
        due("nothing is left", BAD_ARGUMENT, () -> y.load(1));
        fill(y, repeated(" ", 500));
        due("a full buffer", -2, () -> y.load(500));
        due("append behind it", 20, () -> y.append(0, 0, 0, 0, 0));

        sentence("An error leaves all other data unchanged.");
        String errors = "course 5;speed 5;rudder 10 1;pull 1;row 0 9 9 9;row 9 9 9 9;smooth;band 1;dead 1;off 1;gust 0 9 9;yaw 9;";
        for (String text : new String[] {"", "x", "ship 9 9;" + errors + "x", "ship 9 9;" + errors + "row 401 1 1 1;",
            "ship 9 9;" + errors + repeated("gust 0 0 1;", 8), "ship 9 9;" + errors.replace("yaw 9;", "yaw (((((9"), "ship 9 9"}) {
            RudderSchedule twin = changed();
            RudderSchedule z = changed();
            due("load of " + text, true, () -> loaded(z, text) < 0);
            dueAlike(z, twin);
            due("undo()", twin.undo(), z::undo);
            dueAlike(z, twin);
        }

        sentence("An empty text has a SYNTAX_ERROR.");
        RudderSchedule empty = new RudderSchedule();
        due("load(0) of the empty buffer", RudderSchedule.SYNTAX_ERROR, () -> empty.load(0));
        due("errorOffset()", 0, empty::errorOffset);
        fill(empty, "ship 0 0;");
        due("load(0)", RudderSchedule.SYNTAX_ERROR, () -> empty.load(0));
        due("errorOffset()", 0, empty::errorOffset);

        sentence("Returns the number of rows; or the error code of the first error.");
        dueGood("ship 0 0;", 1);
        dueGood("ship 0 0;row 0 1 1 1;", 1);
        dueGood("ship 0 0;row 0 1 1 1;row 1 1 1 1;", 2);
        due("SYNTAX_ERROR", -2, () -> RudderSchedule.SYNTAX_ERROR);
        due("OUT_OF_RANGE", -3, () -> RudderSchedule.OUT_OF_RANGE);
        due("TOO_MANY", -4, () -> RudderSchedule.TOO_MANY);
        due("TOO_DEEP", -5, () -> RudderSchedule.TOO_DEEP);
        dueFault("ship 0 0;dead 91;yaw (((((", -3, 14);
        dueFault("ship 0 0;yaw (((((1;dead 91", -5, 17);
        dueFault("ship 0 0;yaw ((((1;dead 91", -2, 18);

        sentence("Throws `IllegalArgumentException` if length is negative or greater than the length of the buffer; the buffer is "
            + "unchanged then");
        RudderSchedule kept = new RudderSchedule();
        fill(kept, "ship 7 8;course 9;  ");
        for (int length : new int[] {-1, 21, 40, 500, 501, Integer.MIN_VALUE, Integer.MAX_VALUE}) {
            due("load(" + length + ")", BAD_ARGUMENT, () -> kept.load(length));
        }
        due("append behind them", 40, () -> kept.append(0x20202020, 0x20202020, 0x20202020, 0x20202020, 0x20202020));
        due("load(41)", BAD_ARGUMENT, () -> kept.load(41));
        due("load(40)", 1, () -> kept.load(40));
        dueState(kept, 5, 9);
    }

    /** A ship on its way, with 3 changes that can be undone. */
    private static RudderSchedule changed() {
        RudderSchedule x = made("ship 100 200;course 400;row 0 90 5 80;row 150 70 3 60;gust 0 50 2;yaw rudder*speed/1500-rate/2+wind;");
        x.pass(20);
        x.order(90);
        return x;
    }

    private static void dueAlike(RudderSchedule x, RudderSchedule like) {
        due("checksum()", like.checksum(), x::checksum);
        for (int what = 0; what <= 6; what++) {
            int w = what;
            due("foretold(100, " + w + ")", like.foretold(100, w), () -> x.foretold(100, w));
        }
    }

    private static void errorOffset() {
        section("Promise 4: errorOffset");
        sentence("Returns the offset of the error found by the latest call of load that did not throw; -1 if it found none or if there "
            + "was no such call.");
        RudderSchedule x = new RudderSchedule();
        due("no call of load", -1, x::errorOffset);
        due("load(-1)", BAD_ARGUMENT, () -> x.load(-1));
        due("only a call that threw", -1, x::errorOffset);
        loaded(x, "ship 0 0;z");
        due("an error", 9, x::errorOffset);
        due("load(-1)", BAD_ARGUMENT, () -> x.load(-1));
        due("load(1)", BAD_ARGUMENT, () -> x.load(1));
        due("the error ahead of those that threw", 9, x::errorOffset);
        loaded(x, "z");
        due("an error at 0", 0, x::errorOffset);
        loaded(x, "ship 0 0;");
        due("no error", -1, x::errorOffset);
        due("load(501)", BAD_ARGUMENT, () -> x.load(501));
        due("still none", -1, x::errorOffset);
        fill(x, repeated(" ", 500));
        x.load(500);
        due("an error at 500", 500, x::errorOffset);
    }

    private static void state() {
        section("Promise 5: state");
        sentence("- `what`: 0 the time, 1 the heading, 2 the rate of turn, 3 the rudder angle, 4 the speed, 5 the course, 6 the ordered "
            + "speed, 7 the error as it is now, 8 the sum of errors, 9 the wear, 10 the ticks off course, 11 the alarms, 12 the tick "
            + "of the latest alarm (-1 without one), 13 the rows, 14 the gusts, 15 1 if the schedule is smooth, otherwise 0, 16 the "
            + "row in use");
        RudderSchedule all = made("ship 3500 100;course 100;row 0 100 0 0;row 60 90 0 0;row 120 80 0 0;off 150;band 300;rudder 300 40;"
            + "gust 0 9 1;smooth;speed 130;");
        all.pass(6);
        // Tick by tick P is 83, 82, 81, 80, 80, 80; the error 200, 197, 190, 178, 161, 140; the rudder 40, 80, 120, 142,
        // 128, 112; the rate of turn 3, 7, 12, 17, 21, 22.
        int[] want = {6, 3582, 22, 112, 130, 100, 130, 118, 1066, 172, 0, 1, 4, 3, 1, 1, 2};
        for (int i = 0; i < want.length; i++) dueState(all, i, want[i]);

        sentence("12 the tick of the latest alarm (-1 without one)");
        RudderSchedule x = made("ship 0 0;off 1;course 2;");
        dueState(x, 12, -1);
        x.pass(4);
        dueState(x, 12, -1);
        x.pass(1);
        dueState(x, 12, 4);
        x.pass(50);
        dueState(x, 12, 4);
        x.undo();
        x.undo();
        dueState(x, 12, -1);
        x.pass(5);
        loaded(x, "ship 0 0;");
        dueState(x, 12, -1);

        sentence("7 the error as it is now");
        RudderSchedule turning = made("ship 0 0;course 100;yaw 10-rate;");
        dueState(turning, 7, 100);
        turning.pass(1);
        dueState(turning, 7, 90);
        turning.steer(1810);
        dueState(turning, 7, 1800);
        turning.steer(1811);
        dueState(turning, 7, -1799);

        sentence("15 1 if the schedule is smooth, otherwise 0");
        dueState(new RudderSchedule(), 15, 0);
        dueState(made("ship 0 0;smooth;"), 15, 1);
        RudderSchedule smooth = new RudderSchedule();
        smooth.smooth(true);
        dueState(smooth, 15, 1);
        smooth.smooth(false);
        dueState(smooth, 15, 0);

        sentence("Throws `IllegalArgumentException` if what is out of range");
        RudderSchedule y = new RudderSchedule();
        dueRefused("state", 0, 16, BAD_ARGUMENT, y::state);
    }

    private static void row() {
        section("Promise 6: row");
        RudderSchedule x = made("ship 0 0;row 0 1 2 3;row 40 5 6 7;");
        StringBuilder text = new StringBuilder("ship 0 0;");
        for (int i = 0; i < 8; i++) text.append("row ").append(50 * i).append(' ').append(i).append(" 1 1;");
        RudderSchedule full = made(text.toString());
        sentence("- `what`: 0 its speed, 1 P, 2 I, 3 D");
        int[] want = {0, 1, 2, 3, 40, 5, 6, 7};
        for (int i = 0; i < want.length; i++) {
            int at = i;
            due("row(" + i / 4 + ", " + i % 4 + ")", want[i], () -> x.row(at / 4, at % 4));
        }
        due("row(0, -1)", BAD_ARGUMENT, () -> x.row(0, -1));
        due("row(1, 4)", BAD_ARGUMENT, () -> x.row(1, 4));

        sentence(NO_INDEX);
        dueRefused("row", 0, 1, BAD_INDEX, row -> x.row(row, 0));
        dueRefused("row", 0, 7, BAD_INDEX, row -> full.row(row, 0));
        due("row(7, 0)", 350, () -> full.row(7, 0));
        due("row(7, 3)", 1, () -> full.row(7, 3));
        dueRefused("row", 0, 0, BAD_INDEX, row -> new RudderSchedule().row(row, 0));
        loaded(full, "ship 0 0;row 0 1 1 1;row 1 1 1 1;");
        due("a row of the text before", BAD_INDEX, () -> full.row(2, 0));

        sentence("Throws `IllegalArgumentException` if what is out of range");
        dueRefused("what", 0, 3, BAD_ARGUMENT, what -> x.row(0, what));
        dueRefused("what", 0, 3, BAD_ARGUMENT, what -> x.row(1, what));
        due("row(0, 0)", 0, () -> x.row(0, 0));
        due("row(1, 0)", 40, () -> x.row(1, 0));
        due("row(1, 3)", 7, () -> x.row(1, 3));
        due("both", BAD_INDEX, () -> x.row(2, 4));
    }

    private static void gain() {
        section("Promise 7: gain");
        sentence("Returns this gain as it would be in use at this speed.");
        RudderSchedule x = made("ship 0 0;row 0 100 10 300;row 100 110 3 0;row 400 10 99 999;");
        int[][] want = {{0, 100, 10, 300}, {99, 100, 10, 300}, {100, 110, 3, 0}, {399, 110, 3, 0}, {400, 10, 99, 999}};
        int[][] smoothWant = {{0, 100, 10, 300}, {1, 100, 10, 297}, {99, 109, 4, 3}, {100, 110, 3, 0}, {101, 110, 3, 3},
            {399, 11, 98, 995}, {400, 10, 99, 999}};
        for (int[] w : want) dueGains(x, w);
        x.smooth(true);
        for (int[] w : smoothWant) dueGains(x, w);
        due("the ship's own speed", 0, () -> x.state(4));

        range("- `speed`: 0 to 400", 0, 400, BAD_ARGUMENT, speed -> x.gain(speed, 3));
        due("gain(0, 3)", 300, () -> x.gain(0, 3));
        due("gain(400, 3)", 999, () -> x.gain(400, 3));

        range("- `what`: 1 P, 2 I, 3 D", 1, 3, BAD_ARGUMENT, what -> x.gain(0, what));
        for (int what = 1; what <= 3; what++) {
            int w = what;
            due("gain(400, " + w + ")", new int[] {10, 99, 999}[w - 1], () -> x.gain(400, w));
        }

        sentence("Throws `IllegalArgumentException` if speed or what is out of range");
        dueRefused("speed", 0, 400, BAD_ARGUMENT, speed -> x.gain(speed, 1));
        dueRefused("what", 1, 3, BAD_ARGUMENT, what -> x.gain(0, what));
        dueRefused("what", 1, 3, BAD_ARGUMENT, what -> x.gain(400, what));
        due("both", BAD_ARGUMENT, () -> x.gain(401, 0));
    }

    private static void dueGains(RudderSchedule x, int[] speedAndGains) {
        for (int what = 1; what <= 3; what++) {
            int w = what;
            due("gain(" + speedAndGains[0] + ", " + w + ")", speedAndGains[w], () -> x.gain(speedAndGains[0], w));
        }
    }

    private static void wind() {
        section("Promise 8: wind");
        RudderSchedule x = made("ship 0 0;gust 0 0 7;gust 9999 9999 5;");
        range("- `tick`: 0 to 20000", 0, 20000, BAD_ARGUMENT, x::wind);
        int[][] want = {{0, 7}, {1, 0}, {9998, 0}, {9999, 5}, {10000, 0}, {20000, 0}};
        for (int[] w : want) due("wind(" + w[0] + ")", w[1], () -> x.wind(w[0]));
        x.pass(50);
        for (int[] w : want) due("wind(" + w[0] + ") at the time 50", w[1], () -> x.wind(w[0]));

        sentence("Throws `IllegalArgumentException` if tick is out of range");
        dueRefused("wind", 0, 20000, BAD_ARGUMENT, x::wind);
    }

    private static void error() {
        section("Promise 9: error");
        sentence("Returns the error of this heading with this course.");
        RudderSchedule x = made("ship 5 0;course 9;");
        int[][] want = {{0, 0, 0}, {0, 1800, 1800}, {1800, 0, 1800}, {0, 1801, -1799}, {1799, 0, -1799}, {3599, 0, 1}, {0, 3599, -1}};
        for (int[] w : want) due("error(" + w[0] + ", " + w[1] + ")", w[2], () -> x.error(w[0], w[1]));

        range("- `heading`: 0 to 3599", 0, 3599, BAD_ARGUMENT, heading -> x.error(heading, 5));
        due("error(3599, 3599)", 0, () -> x.error(3599, 3599));

        range("- `course`: 0 to 3599", 0, 3599, BAD_ARGUMENT, course -> x.error(5, course));
        due("error(1800, 3599)", 1799, () -> x.error(1800, 3599));

        sentence("Throws `IllegalArgumentException` if heading or course is out of range");
        dueRefused("heading", 0, 3599, BAD_ARGUMENT, heading -> x.error(heading, 0));
        dueRefused("course", 0, 3599, BAD_ARGUMENT, course -> x.error(0, course));
        due("both", BAD_ARGUMENT, () -> x.error(-1, 3600));
        dueState(x, 7, 4);
    }

    private static void why() {
        section("Promise 10: why");
        String ship = "ship 0 0;dead 0;row 0 100 0 0;rudder 50 20;course ";
        sentence("Returns the first that applies: 1 the wanted rudder is 0 as the error and the rate of turn are small, 2 it is limited "
            + "by the limit (it was greater than the limit, or less than -limit), 3 the rudder does not come to the wanted one in "
            + "this tick because of its rate, otherwise 0.");
        int[][] want = {{0, 1}, {1, 0}, {20, 0}, {21, 3}, {50, 3}, {51, 2}, {1800, 2}, {1801, 2}, {3549, 2}, {3550, 3}, {3579, 3},
            {3580, 0}, {3599, 0}};
        for (int[] w : want) due("why at the course " + w[0], w[1], () -> made(ship + w[0] + ";").why());
        // All apply: the rudder is far from 0, yet the error is small; or far beyond the limit.
        RudderSchedule x = made(ship + "50;");
        x.pass(3);
        dueState(x, 3, 50);
        due("at the limit", 0, x::why);
        x.steer(0);
        due("small, though 0 is beyond the rate", 1, x::why);
        x.steer(3500);
        due("beyond the limit and the rate", 2, x::why);
        x.steer(51);
        due("beyond the limit, but the rudder stays", 2, x::why);
        x.steer(30);
        due("back by the rate", 0, x::why);
        x.steer(29);
        due("back by more than the rate", 3, x::why);
        // The wanted rudder is 0 by itself, with an error that is not small.
        due("0 otherwise", 0, () -> made("ship 0 0;dead 5;row 0 1 0 0;course 9;").why());

        sentence("Explains the rudder of the next tick, if it passed now (behind (1) and (2) of that tick).");
        due("by the speed of that tick", 2, () -> made("ship 0 9;speed 10;row 0 0 0 0;row 10 999 0 0;course 100;").why());
        due("not yet", 0, () -> made("ship 0 4;speed 10;row 0 0 0 0;row 10 999 0 0;course 100;").why());
        RudderSchedule sum = made("ship 0 0;dead 0;band 100;row 0 0 99 0;rudder 450 9;course 100;");
        due("by the sum of that tick", 0, sum::why);
        dueState(sum, 8, 0);
        due("the wanted rudder", 9, sum::wanted);
        sum.pass(1);
        due("by the next sum", 19, sum::wanted);
        due("beyond the rate", 3, sum::why);
    }

    private static void wanted() {
        section("Promise 11: wanted");
        sentence("Returns the wanted rudder of the next tick, if it passed now, before it is limited.");
        RudderSchedule x = made("ship 0 0;row 0 999 99 999;band 900;rudder 10 1;course 900;");
        due("far beyond the limit and the rate", (999 * 900 + 99 * 900 / 10) / 100, x::wanted);
        x.steer(2700);
        due("far beyond to the left", -(999 * 900 + 99 * 900 / 10) / 100, x::wanted);
        x.steer(901);
        due("beyond the band", 999 * 901 / 100, x::wanted);
        dueState(x, 0, 0);
        dueState(x, 8, 0);
        due("the greatest", 999 * 1800 / 100, () -> made("ship 0 0;row 0 999 99 999;course 1800;").wanted());
        RudderSchedule spun = made("ship 0 0;row 0 0 0 999;yaw 300;");
        spun.pass(1);
        due("by the greatest rate of turn", -999 * 300 / 100, spun::wanted);
        spun.pass(1);
        spun.steer(spun.state(1));
        due("an error of 0, but a rate of turn", -999 * 300 / 100, spun::wanted);
        due("0 if all is small", 0, () -> made("ship 0 0;course 5;row 0 999 99 0;").wanted());
        due("by the speed of that tick", 15, () -> made("ship 0 0;speed 9;smooth;row 0 100 0 0;row 10 200 0 0;course 10;").wanted());
    }

    private static void foretold() {
        section("Promise 12: foretold");
        sentence("Foretells what comes if only ticks pass.");
        RudderSchedule x = changed();
        RudderSchedule twin = changed();
        long before = x.checksum();
        int wear = twin.state(9);
        for (int ticks = 1; ticks <= 300; ticks++) {
            twin.pass(1);
            if (ticks > 5 && ticks < 295) continue;
            int t = ticks;
            int[] want = {twin.state(1), twin.state(2), twin.state(3), twin.state(4), twin.state(9) - wear};
            for (int what = 0; what < want.length; what++) {
                int w = what;
                due("foretold(" + t + ", " + w + ")", want[w], () -> x.foretold(t, w));
            }
        }
        due("nothing has changed", before, x::checksum);
        due("it is no change: that of order is the latest", 2, x::undo);

        range("- `ticks`: 1 to 300", 1, 300, BAD_ARGUMENT, ticks -> twin.foretold(ticks, 0));
        RudderSchedule turning = made("ship 0 0;yaw 1-rate;");
        due("foretold(1, 0)", 1, () -> turning.foretold(1, 0));
        due("foretold(300, 0)", 300, () -> turning.foretold(300, 0));

        range("- `what`: 0 the heading then, 1 the rate of turn then, 2 the rudder angle then, 3 the speed then,", 0, 6, BAD_ARGUMENT,
            what -> twin.foretold(300, what));
        RudderSchedule one = made("ship 3595 7;speed 400;course 11;gust 0 0 20;yaw wind;off 1;row 0 150 0 0;");
        int[] behindOne = {15, 20, 24, 12, 24, 0, 4};
        for (int what = 0; what < behindOne.length; what++) {
            int w = what;
            due("foretold(1, " + w + ")", behindOne[w], () -> one.foretold(1, w));
        }

        sentence("4 the wear of these ticks, 5 the alarms of these ticks");
        RudderSchedule worn = made("ship 0 0;off 10;row 0 100 0 0;rudder 100 10;course 100;");
        worn.pass(12);
        dueState(worn, 9, 100);
        dueState(worn, 11, 1);
        due("no wear of these ticks", 0, () -> worn.foretold(300, 4));
        due("no alarm of these ticks", 0, () -> worn.foretold(300, 5));
        worn.steer(0);
        worn.pass(1);
        worn.steer(3500);
        due("4 ticks", 0, () -> worn.foretold(4, 5));
        due("5 ticks", 1, () -> worn.foretold(5, 5));
        due("the wear of 1 tick", 10, () -> worn.foretold(1, 4));
        due("the wear to the other side", 90 + 100, () -> worn.foretold(300, 4));
        RudderSchedule nearly = made("ship 0 0;off 10;course 100;");
        nearly.pass(4);
        due("an alarm in the next tick", 1, () -> nearly.foretold(1, 5));
        nearly.pass(1);
        due("none behind it", 0, () -> nearly.foretold(1, 5));

        sentence("6 the greatest error without its sign behind any of these ticks, by the heading then");
        due("the error now does not count", 90, () -> made("ship 0 0;course 100;yaw 10-rate;").foretold(1, 6));
        due("the error behind the last tick counts", 200, () -> made("ship 0 0;course 100;yaw 10-rate;").foretold(30, 6));
        due("the greatest in between", 150, () -> made("ship 0 0;course 100;yaw wind-rate;gust 0 24 10;gust 25 40 -10;").foretold(30, 6));
        due("to the left", 120, () -> made("ship 0 0;course 3500;yaw 10-rate;").foretold(2, 6));
        due("none", 0, () -> new RudderSchedule().foretold(300, 6));
        due("the greatest of all", 1800, () -> made("ship 0 0;course 1800;").foretold(1, 6));
        due("wrapped", 1799, () -> made("ship 0 0;course 1799;yaw 0-2;").foretold(1, 6));

        sentence("Throws `IllegalArgumentException` if ticks or what is out of range");
        dueRefused("ticks", 1, 300, BAD_ARGUMENT, ticks -> twin.foretold(ticks, 0));
        dueRefused("what", 0, 6, BAD_ARGUMENT, what -> twin.foretold(1, what));
        due("both", BAD_ARGUMENT, () -> twin.foretold(301, 7));
    }

    private static void settles() {
        section("Promise 13: settles");
        sentence("it is settled behind a tick if the error behind this tick and behind each of the 4 ticks before it is -dead to dead "
            + "(only ticks that pass from now on count).");
        due("the errors 20, 10, 0, -10, -20", 12, () -> made("ship 0 0;course 100;yaw 10-rate;dead 20;").settles(300));
        due("20 is beyond dead", -1, () -> made("ship 0 0;course 100;yaw 10-rate;dead 19;").settles(300));
        due("-20 is beyond -dead", -1, () -> made("ship 0 0;course 99;yaw 10-rate;dead 20;").settles(40));
        due("only 4 in the range", -1, () -> made("ship 0 0;course 95;yaw 10-rate;dead 15;").settles(40));
        due("4 in the range, then 5", 15, () -> made("ship 0 0;course 20;dead 2;yaw wind-rate;gust 0 0 20;gust 4 4 9;gust 10 10 -9;").settles(20));
        due("the error dead", 5, () -> made("ship 0 0;course 20;yaw 0;dead 20;").settles(5));
        due("the error -dead", 5, () -> made("ship 20 0;course 0;yaw 0;dead 20;").settles(5));
        due("beyond dead", -1, () -> made("ship 0 0;course 21;yaw 0;dead 20;").settles(300));
        due("beyond -dead", -1, () -> made("ship 21 0;course 0;yaw 0;dead 20;").settles(300));
        due("dead 0", 5, () -> made("ship 0 0;yaw 0;dead 0;").settles(300));
        RudderSchedule x = made("ship 0 0;yaw 0;");
        x.pass(50);
        due("ticks that have passed do not count", 5, () -> x.settles(300));
        RudderSchedule y = made("ship 0 0;course 100;yaw 10-rate;dead 20;");
        y.pass(9);
        due("two of the five have passed", -1, () -> y.settles(40));
        due("the error now does not count", 5, () -> made("ship 0 0;course 10;dead 9;yaw wind-rate;gust 0 0 1;").settles(300));

        sentence("Returns the number of the tick behind which it is settled first, from 1 for the next one; -1 if it is not settled in "
            + "limit ticks.");
        due("settles(12)", 12, () -> made("ship 0 0;course 100;yaw 10-rate;dead 20;").settles(12));
        due("settles(11)", -1, () -> made("ship 0 0;course 100;yaw 10-rate;dead 20;").settles(11));
        due("the first of several", 5, () -> made("ship 0 0;yaw wind-rate;gust 20 20 50;gust 30 30 -50;").settles(300));
        // Behind tick 296 the error is dead for the first time.
        String late = "ship 0 0;course 21;dead 20;yaw wind-rate;gust 295 295 1;";
        due("settles(300)", 300, () -> made(late).settles(300));
        due("settles(299)", -1, () -> made(late).settles(299));
        due("one tick later", -1, () -> made(late.replace("295", "296")).settles(300));
        RudderSchedule on = made(late);
        on.pass(50);
        due("from now on", 250, () -> on.settles(300));

        range("- `limit`: 5 to 300", 5, 300, BAD_ARGUMENT, x::settles);
        due("settles(5)", 5, () -> x.settles(5));

        sentence("Throws `IllegalArgumentException` if limit is out of range");
        dueRefused("settles", 5, 300, BAD_ARGUMENT, x::settles);
    }

    private static void swings() {
        section("Promise 14: swings");
        sentence("Returns the greatest error without its sign, of those behind these ticks that have another sign than the error now (0 "
            + "if there are none, or if the error now is 0).");
        String right = "ship 0 0;course 95;yaw 10-rate;";
        due("none of another sign", 0, () -> made(right).swings(9));
        due("the first of another sign", 5, () -> made(right).swings(10));
        due("a later one", 15, () -> made(right).swings(11));
        due("the last ahead of the other side", 1795, () -> made(right).swings(189));
        due("1 to the left of 1 to the right", 1, () -> made("ship 0 0;course 1;yaw 2-rate;").swings(1));
        due("1 to the right of 1 to the left", 1, () -> made("ship 1 0;course 0;yaw 0-2-rate;").swings(1));
        String left = "ship 95 0;course 0;yaw 0-10-rate;";
        due("none of another sign, to the left", 0, () -> made(left).swings(9));
        due("the first of another sign, to the left", 5, () -> made(left).swings(10));
        due("the error 0 has no other sign", 0, () -> made("ship 0 0;course 100;yaw 10-rate;").swings(10));
        due("behind the error 0", 10, () -> made("ship 0 0;course 100;yaw 10-rate;").swings(11));
        due("no error now", 0, () -> made("ship 0 0;yaw 10-rate;").swings(300));
        due("no error now, to the left", 0, () -> made("ship 0 0;yaw 0-10-rate;").swings(300));
        due("the greatest, not the last", 25, () -> made("ship 0 0;course 95;yaw wind-rate;gust 0 11 10;gust 12 30 -10;").swings(30));
        due("greater ones of the same sign do not count", 0, () -> made("ship 0 0;course 95;yaw 0-10-rate;").swings(50));
        due("the error 1800 is to the right", 1799, () -> made("ship 0 0;course 1800;yaw 0-1-rate;").swings(1));
        RudderSchedule x = made(right);
        x.pass(10);
        due("the sign is that of now", 0, () -> x.swings(100));

        range("- `ticks`: 1 to 300", 1, 300, BAD_ARGUMENT, x::swings);
        due("swings(1)", 5, () -> made("ship 0 0;course 5;yaw 10;").swings(1));
        RudderSchedule slow = made("ship 0 0;course 1;yaw 1-rate;");
        due("swings(300)", 299, () -> slow.swings(300));
        due("swings(299)", 298, () -> slow.swings(299));

        sentence("Throws `IllegalArgumentException` if ticks is out of range");
        dueRefused("swings", 1, 300, BAD_ARGUMENT, x::swings);
    }

    private static void tunes() {
        section("Promise 15: tunes");
        sentence("of 0, 20, 40 and so on up to 400 the one with which, if it was set now as P of this row alone, the ship would be "
            + "settled the soonest (settles(limit), -1 is behind all others);");
        // The greater P, the sooner; 400 is the last that is tried, though more would be sooner.
        String stiff = "ship 0 0;course 50;dead 2;rudder 450 99;row 0 7 0 0;row 100 7 0 0;yaw rudder/10-rate;";
        due("up to 400", 400, () -> made(stiff).tunes(0, 100));
        RudderSchedule more = made(stiff);
        more.gains(0, 999, 0, 0);
        int withMore = more.settles(100);
        more.gains(0, 400, 0, 0);
        due("more than 400 would settle sooner", true, () -> withMore > 0 && withMore < more.settles(100));
        due("the least limit in which one settles", 400, () -> made(stiff).tunes(0, 12));
        due("none settles: -1 with each", 0, () -> made(stiff).tunes(0, 11));
        due("a row that is not in use", 0, () -> made(stiff).tunes(1, 100));
        due("from 0 on", 0, () -> made("ship 0 0;course 5;dead 5;yaw rudder;").tunes(0, 100));
        // 20 turns the ship onto its course at once, more beyond it.
        due("a gain of 20", 20, () -> made("ship 0 0;course 10;dead 1;row 0 0 0 0;rudder 450 99;yaw rudder*5-rate;").tunes(0, 100));
        RudderSchedule kept = made(stiff);
        long untouched = kept.checksum();
        kept.tunes(0, 100);
        due("nothing is set", untouched, kept::checksum);
        due("the row's own P does not count", 400, () -> made(stiff.replace("row 0 7", "row 0 399")).tunes(0, 100));

        sentence("of several the one with which it would swing over its course the least (swings(limit)), of these the smallest.");
        due("all are alike", 0, () -> new RudderSchedule().tunes(0, 100));
        // None settles in 5 ticks; 12 - rudder a tick turns the ship by, so that 120 swings the least.
        due("the swing alone", 120, () -> made("ship 0 0;course 10;dead 0;row 0 7 0 0;yaw 12-rate-rudder;").tunes(0, 5));
        String smooth = "ship 0 100;course 200;dead 30;rudder 350 20;row 0 7 0 500;row 150 80 0 300;smooth;";
        due("320 to 400 settle alike, 380 and 400 swing the least", 380, () -> made(smooth).tunes(0, 100));
        due("120 to 340 settle and swing alike", 120,
            () -> made("ship 0 0;course 300;dead 90;rudder 450 20;row 0 7 0 50;yaw rudder/20-rate/4;").tunes(0, 60));
        for (int row = 0; row < 2; row++) {
            for (int limit : new int[] {5, 20, 99, 100}) {
                int r = row;
                due("tunes(" + r + ", " + limit + ") by hand", tunedByHand(smooth, r, limit), () -> made(smooth).tunes(r, limit));
            }
        }

        RudderSchedule x = made(smooth);
        long before = x.checksum();
        range("- `limit`: 5 to 100", 5, 100, BAD_ARGUMENT, limit -> x.tunes(1, limit));

        sentence(NO_INDEX);
        dueRefused("row", 0, 1, BAD_INDEX, row -> x.tunes(row, 5));
        due("both", BAD_INDEX, () -> x.tunes(2, 4));

        sentence("Throws `IllegalArgumentException` if limit is out of range");
        dueRefused("limit", 5, 100, BAD_ARGUMENT, limit -> x.tunes(0, limit));
        due("nothing has changed", before, x::checksum);
    }

    /** The tuned gain by the other calls: each P is set and asked for settles and swings. */
    private static int tunedByHand(String text, int row, int limit) {
        RudderSchedule x = made(text);
        int best = -1;
        int soonest = 0;
        int least = 0;
        for (int p = 0; p <= 400; p += 20) {
            x.gains(row, p, x.row(row, 2), x.row(row, 3));
            int settled = x.settles(limit) == -1 ? Integer.MAX_VALUE : x.settles(limit);
            int swing = x.swings(limit);
            if (best < 0 || settled < soonest || settled == soonest && swing < least) {
                best = p;
                soonest = settled;
                least = swing;
            }
        }
        return best;
    }

    private static void meanWear() {
        section("Promise 16: meanWear");
        sentence("Returns the wear and the time, both converted to double and divided; 0.0 at the time 0.");
        RudderSchedule x = made("ship 0 0;course 1800;rudder 450 7;");
        due("at the time 0", 0.0, x::meanWear);
        due("of a new object", 0.0, () -> new RudderSchedule().meanWear());
        x.pass(1);
        due("behind 1 tick", 7.0, x::meanWear);
        x.steer(0);
        x.pass(2);
        due("14 in 3 ticks", 14.0 / 3.0, x::meanWear);
        x.undo();
        x.undo();
        x.undo();
        due("at the time 0 again", 0.0, x::meanWear);
        RudderSchedule y = new RudderSchedule();
        y.pass(9);
        due("no wear", 0.0, y::meanWear);
        loaded(x, "ship 0 0;");
        due("loaded anew", 0.0, x::meanWear);
    }

    private static void pass() {
        section("Promise 17: pass");
        sentence("Returns the alarms that were given in them.");
        RudderSchedule x = made("ship 0 0;off 10;course 11;");
        due("4 ticks", 0, () -> x.pass(4));
        due("the 5th", 1, () -> x.pass(1));
        due("more", 0, () -> x.pass(50));
        x.steer(0);
        due("on course", 0, () -> x.pass(1));
        x.steer(3589);
        due("off again", 1, () -> x.pass(50));
        dueState(x, 11, 2);
        due("two in one call", 2, () -> made("ship 0 0;off 10;yaw wind-rate;gust 0 5 20;gust 12 20 5;gust 6 11 -20;").pass(50));

        RudderSchedule counted = new RudderSchedule();
        range("- `ticks`: 1 to 50", 1, 50, BAD_ARGUMENT, counted::pass);
        dueState(counted, 0, 1 + 25 + 50);

        sentence("Throws `IllegalArgumentException` if ticks is out of range");
        RudderSchedule y = new RudderSchedule();
        dueRefused("pass", 1, 50, BAD_ARGUMENT, y::pass);
        dueState(y, 0, 1 + 50);
    }

    private static void steer() {
        section("Promise 18: steer");
        sentence("Returns the error then.");
        RudderSchedule x = made("ship 3000 0;");
        int[][] want = {{3000, 0}, {3599, 599}, {0, 600}, {1199, 1799}, {1200, 1800}, {1201, -1799}, {2999, -1}};
        for (int[] w : want) {
            due("steer(" + w[0] + ")", w[1], () -> x.steer(w[0]));
            dueState(x, 5, w[0]);
        }

        range("- `course`: 0 to 3599", 0, 3599, BAD_ARGUMENT, x::steer);
        dueState(x, 5, 3599);

        sentence("Throws `IllegalArgumentException` if course is out of range");
        dueRefused("steer", 0, 3599, BAD_ARGUMENT, x::steer);
        dueState(x, 5, 3599);
    }

    private static void order() {
        section("Promise 19: order");
        sentence("Returns in how many ticks the ship has it.");
        RudderSchedule x = made("ship 0 100;pull 7;");
        int[][] want = {{100, 0}, {101, 1}, {107, 1}, {108, 2}, {114, 2}, {115, 3}, {99, 1}, {93, 1}, {92, 2}, {86, 2}, {85, 3},
            {400, 43}, {0, 15}};
        for (int[] w : want) {
            due("order(" + w[0] + ")", w[1], () -> x.order(w[0]));
            for (int ticks = 1; ticks <= w[1]; ticks++) {
                int t = ticks;
                due("has it behind " + t, t == w[1], () -> x.foretold(t, 3) == w[0]);
            }
        }
        due("the pull 1, to the fastest", 400, () -> made("ship 0 0;pull 1;").order(400));
        due("the pull 50, to the fastest", 8, () -> made("ship 0 0;pull 50;").order(400));
        due("the pull 50, from 399", 8, () -> made("ship 0 399;pull 50;").order(0));
        due("the pull 50, to 351", 8, () -> made("ship 0 0;pull 50;").order(351));

        range("- `speed`: 0 to 400", 0, 400, BAD_ARGUMENT, x::order);
        dueState(x, 6, 400);

        sentence("Throws `IllegalArgumentException` if speed is out of range");
        dueRefused("order", 0, 400, BAD_ARGUMENT, x::order);
        dueState(x, 6, 400);
    }

    private static void gust() {
        section("Promise 20: gust");
        sentence("Returns the wind at the present tick then.");
        RudderSchedule x = new RudderSchedule();
        x.pass(4);
        due("it begins now", 9, () -> x.gust(4, 8, 9));
        due("it ends now", 19, () -> x.gust(0, 4, 10));
        due("it begins in the next tick", 19, () -> x.gust(5, 9, 50));
        due("it ended in the tick before", 19, () -> x.gust(0, 3, 50));
        due("only now", 19 - 99, () -> x.gust(4, 4, -99));
        RudderSchedule late = new RudderSchedule();
        for (int i = 0; i < 199; i++) late.pass(50);
        late.pass(49);
        due("in the tick 9999", 99, () -> late.gust(9999, 9999, 99));
        late.pass(1);
        due("in the tick 10000", 0, () -> late.gust(0, 9999, 99));
        for (int i = 0; i < 201; i++) late.pass(50);
        due("in a tick beyond 20000", 0, () -> late.gust(0, 9999, 99));

        range("- `first`: its first tick, 0 to 9999", 0, 9999, BAD_ARGUMENT, first -> new RudderSchedule().gust(first, 9999, 1));
        due("the first tick 0", 1, () -> new RudderSchedule().gust(0, 9999, 1));

        sentence("- `last`: its last tick, first to 9999");
        RudderSchedule y = new RudderSchedule();
        due("first itself", 1, () -> y.gust(0, 0, 1));
        due("less than first", BAD_ARGUMENT, () -> y.gust(5, 4, 1));
        due("first itself, the last tick", 1, () -> y.gust(9999, 9999, 1));
        due("beyond", BAD_ARGUMENT, () -> y.gust(9999, 10000, 1));

        range("- `strength`: -99 to 99", -99, 99, BAD_ARGUMENT, strength -> new RudderSchedule().gust(0, 0, strength));
        for (int strength : new int[] {-99, -1, 0, 1, 99}) {
            due("the strength " + strength, strength, () -> new RudderSchedule().gust(0, 0, strength));
        }

        sentence("Throws `IllegalArgumentException` if a parameter is out of range");
        dueRefused("first", 0, 9999, BAD_ARGUMENT, first -> new RudderSchedule().gust(first, 9999, 1));
        dueRefused("last", 0, 9999, BAD_ARGUMENT, last -> new RudderSchedule().gust(0, last, 1));
        dueRefused("last of first 37", 37, 9999, BAD_ARGUMENT, last -> new RudderSchedule().gust(37, last, 1));
        dueRefused("strength", -99, 99, BAD_ARGUMENT, strength -> new RudderSchedule().gust(0, 0, strength));

        sentence("Throws `IllegalStateException` if there are 8 gusts");
        RudderSchedule full = made("ship 0 0;gust 0 0 1;gust 0 0 1;");
        for (int i = 3; i <= 8; i++) due("gust " + i, i, () -> full.gust(0, 0, 1));
        due("gust 9", BAD_STATE, () -> full.gust(0, 0, 1));
        due("gust 9 again", BAD_STATE, () -> full.gust(0, 0, 1));
        due("a wrong one", BAD_ARGUMENT, () -> full.gust(0, 0, 100));
        dueState(full, 14, 8);
        due("wind(0)", 8, () -> full.wind(0));
        for (int i = 0; i < 50; i++) full.pass(1);
        due("gusts that are over count too", BAD_STATE, () -> full.gust(60, 60, 1));
        loaded(full, "ship 0 0;");
        due("room behind a load", 1, () -> full.gust(0, 0, 1));
    }

    private static void gains() {
        section("Promise 21: gains");
        sentence("Returns the gain P that is in use then.");
        RudderSchedule x = made("ship 0 50;row 0 100 0 0;row 100 200 0 0;");
        due("of the row in use", 999, () -> x.gains(0, 999, 99, 999));
        due("of another row", 999, () -> x.gains(1, 0, 0, 0));
        due("of the least", 0, () -> x.gains(0, 0, 0, 0));
        x.smooth(true);
        due("smooth", 499, () -> x.gains(1, 999, 1, 1));
        due("its speed stays", 100, () -> x.row(1, 0));
        RudderSchedule last = made("ship 0 100;smooth;row 0 100 0 0;row 100 200 0 0;");
        due("the last row", 7, () -> last.gains(1, 7, 0, 0));
        due("the row before", 7, () -> last.gains(0, 9, 0, 0));

        sentence(NO_INDEX);
        dueRefused("row", 0, 1, BAD_INDEX, row -> x.gains(row, 5, 6, 7));
        due("both", BAD_INDEX, () -> x.gains(2, 1000, 100, 1000));

        RudderSchedule ranges = new RudderSchedule();
        range("- `p`: P, 0 to 999", 0, 999, BAD_ARGUMENT, p -> ranges.gains(0, p, 6, 7));
        due("row(0, 1)", 999, () -> ranges.row(0, 1));
        range("- `i`: I, 0 to 99", 0, 99, BAD_ARGUMENT, i -> ranges.gains(0, 5, i, 7));
        due("row(0, 2)", 99, () -> ranges.row(0, 2));
        range("- `d`: D, 0 to 999", 0, 999, BAD_ARGUMENT, d -> ranges.gains(0, 5, 6, d));
        due("row(0, 3)", 999, () -> ranges.row(0, 3));

        sentence("Throws `IllegalArgumentException` if a gain is out of range");
        dueRefused("P", 0, 999, BAD_ARGUMENT, p -> x.gains(0, p, 6, 7));
        dueRefused("I", 0, 99, BAD_ARGUMENT, i -> x.gains(0, 5, i, 7));
        dueRefused("D", 0, 999, BAD_ARGUMENT, d -> x.gains(0, 5, 6, d));
        int[] want = {0, 5, 6, 999};
        for (int what = 0; what < 4; what++) {
            int w = what;
            due("row(0, " + w + ")", want[w], () -> x.row(0, w));
        }
    }

    private static void smooth() {
        section("Promise 22: smooth");
        sentence("Returns whether it was.");
        RudderSchedule x = new RudderSchedule();
        boolean[] set = {false, true, true, false, false, true};
        boolean[] was = {false, false, true, true, false, false};
        for (int i = 0; i < set.length; i++) {
            boolean next = set[i];
            due("smooth(" + next + ")", was[i], () -> x.smooth(next));
            dueState(x, 15, next ? 1 : 0);
        }
        due("smooth by the text", true, () -> made("ship 0 0;smooth;").smooth(true));
        loaded(x, "ship 0 0;");
        due("not by the text", false, () -> x.smooth(true));
        x.undo();
        due("undone", false, () -> x.smooth(false));
    }

    private static void checksum() {
        section("Promise 24: checksum");
        sentence("It starts at 0; each number n in the following order replaces it by 31 * checksum + n, wrapping around on overflow of "
            + "a long:");
        RudderSchedule x = made("ship 100 200;course 400;smooth;row 0 90 5 80;row 150 70 3 60;row 220 99 9 99;gust 0 50 2;dead 1;off 9;");
        due("of a new object", byHand(new RudderSchedule()), () -> new RudderSchedule().checksum());
        for (int i = 0; i < 12; i++) {
            due("on the way", byHand(x), x::checksum);
            x.pass(2);
        }
        StringBuilder text = new StringBuilder("ship 3599 400;course 1799;");
        for (int i = 0; i < 8; i++) text.append("row ").append(i * 57).append(" 999 99 999;");
        due("of 8 rows", byHand(made(text.toString())), () -> made(text.toString()).checksum());
        due("it overflows", true, () -> byHandWithoutOverflow(made(text.toString())).bitLength() > 63);

        sentence("state(0) to state(16); for each row what row(int, int) tells of it for 0 to 3; wanted(), why(),");
        RudderSchedule each = new RudderSchedule();
        due("of a new object", expectedOfNewObject(), each::checksum);
        for (int row = 0; row < 3; row++) {
            int r = row;
            for (int[] g : new int[][] {{89, 4, 81}, {90, 4, 81}, {90, 5, 81}, {90, 5, 80}}) {
                x.gains(r, g[0], g[1], g[2]);
                due("by the gains of the row " + r, byHand(x), x::checksum);
            }
        }

        sentence("and wind(int) of the present tick (if that is at most 20000).");
        RudderSchedule gusty = made("ship 0 0;gust 3 3 9;yaw 0;dead 90;");
        gusty.pass(3);
        due("with a wind", byHand(gusty), gusty::checksum);
        RudderSchedule late = new RudderSchedule();
        for (int i = 0; i < 399; i++) late.pass(50);
        late.pass(49);
        for (int time = 19999; time <= 20002; time++) {
            dueState(late, 0, time);
            due("at the time " + time, byHand(late), late::checksum);
            late.pass(1);
        }
    }

    /** Of its numbers all but these are 0: the latest alarm -1, the rows 1, P 100, D 200, why 1. */
    private static long expectedOfNewObject() {
        int[] numbers = {0, 0, 0, 0, 0, 0, 0, 0, 0, 0, 0, 0, -1, 1, 0, 0, 0, 0, 100, 0, 200, 0, 1, 0};
        long sum = 0;
        for (int number : numbers) sum = 31 * sum + number;
        return sum;
    }

    private static BigInteger byHandWithoutOverflow(RudderSchedule x) {
        BigInteger sum = BigInteger.ZERO;
        for (int i = 0; i <= 16; i++) sum = joined(sum, x.state(i));
        for (int row = 0; row < x.state(13); row++) {
            for (int what = 0; what < 4; what++) sum = joined(sum, x.row(row, what));
        }
        sum = joined(joined(sum, x.wanted()), x.why());
        return x.state(0) > 20000 ? sum : joined(sum, x.wind(x.state(0)));
    }

    private static BigInteger joined(BigInteger sum, int number) {
        return sum.multiply(BigInteger.valueOf(31)).add(BigInteger.valueOf(number));
    }

    private static long byHand(RudderSchedule x) {
        return byHandWithoutOverflow(x).longValue();
    }
}
