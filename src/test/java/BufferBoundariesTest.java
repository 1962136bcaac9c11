/** Promises 1 to 4, a new object and what is loaded: each sentence that names a boundary case. */
public final class BufferBoundariesTest extends Checks {
    public static void main(String[] args) {
        section("Promise 1: A new object");
        newObject();
        section("Promise 2: append");
        appendedBytes();
        fullBuffer();
        section("Promise 3: load");
        firstBytesAreRead();
        nothingIsLeftOfAnError();
        bufferIsEmptyAfterwards();
        errorLeavesData();
        emptyText();
        answersOfLoad();
        wrongLengths();
        section("Promise 4: errorOffset");
        errorOffset();
        finish();
    }

    private static void newObject() {
        sentence("Creates an object as by the text \"ship 0 0;\", with an empty input buffer.");
        RudderSchedule x = new RudderSchedule();
        due("load(1)", BAD_ARGUMENT, () -> x.load(1));
        due("the first append", 20, () -> x.append(0, 0, 0, 0, 0));
        due("load(21)", BAD_ARGUMENT, () -> x.load(21));
        int[] want = {0, 0, 0, 0, 0, 0, 0, 0, 0, 0, 0, 0, -1, 1, 0, 0, 0};
        for (int i = 0; i < want.length; i++) dueState(x, i, want[i]);
        due("checksum()", made("ship 0 0;").checksum(), x::checksum);
        due("load(0)", -2, () -> new RudderSchedule().load(0));
        RudderSchedule other = new RudderSchedule();
        other.pass(9);
        other.append(1, 2, 3, 4, 5);
        due("another object knows nothing of it", BAD_ARGUMENT, () -> new RudderSchedule().load(20));
        due("nor of its time", 0, () -> new RudderSchedule().state(0));
    }

    private static void appendedBytes() {
        sentence("Appends 20 bytes to the input buffer: the 4 bytes of each argument, the most significant byte first.");
        RudderSchedule x = new RudderSchedule();
        due("append(..)", 20, () -> x.append(0x73686970, 0x33352034, 0x303b6f66, 0x66203132, 0x33343b20));
        due("load(20)", 1, () -> x.load(20));
        dueState(x, 1, 35);
        dueState(x, 4, 40);
        for (int place = 0; place < 20; place++) {
            // A letter at this place alone: all other bytes are spaces.
            int[] w = {0x20202020, 0x20202020, 0x20202020, 0x20202020, 0x20202020};
            w[place / 4] += 0x50 << (24 - place % 4 * 8);
            RudderSchedule y = new RudderSchedule();
            y.append(w[0], w[1], w[2], w[3], w[4]);
            due("load of a letter at " + place, -2, () -> y.load(20));
            due("errorOffset()", place, y::errorOffset);
        }
        RudderSchedule high = new RudderSchedule();
        high.append(-1, -1, -1, -1, -1);
        due("bytes 255", -2, () -> high.load(20));
        due("errorOffset()", 0, high::errorOffset);
        high.append(Integer.MIN_VALUE, 0, 0, 0, 0);
        due("byte 128", -2, () -> high.load(1));
        due("errorOffset()", 0, high::errorOffset);
    }

    private static int appendSpaces(RudderSchedule x) {
        return x.append(0x20202020, 0x20202020, 0x20202020, 0x20202020, 0x20202020);
    }

    private static void fullBuffer() {
        sentence("Returns the new length of the buffer; -1 if it would exceed 500 bytes, and the buffer is unchanged then.");
        RudderSchedule full = new RudderSchedule();
        for (int i = 1; i <= 24; i++) due("append " + i, 20 * i, () -> appendSpaces(full));
        due("append to 500 bytes", 500, () -> full.append(0x73686970, 0x37203920, 0x3b202020, 0x20202020, 0x2020203b));
        for (int i = 0; i < 3; i++) due("append beyond", -1, () -> full.append(-1, -1, -1, -1, -1));
        due("load(501)", BAD_ARGUMENT, () -> full.load(501));
        due("the last byte is the old one", -2, () -> full.load(500));
        due("errorOffset()", 499, full::errorOffset);
        due("append to the empty buffer", 20, () -> full.append(0, 0, 0, 0, 0));
    }

    private static void firstBytesAreRead() {
        sentence("Reads the first bytes of the input buffer as a setup text and replaces all data by it; the time is 0.");
        RudderSchedule x = made("ship 5 6;course 900;speed 100;smooth;row 0 1 2 3;row 9 8 7 6;gust 0 99 1;off 1;yaw wind;band 900;dead 0;");
        x.pass(50);
        fill(x, "ship 7 8;smooth;");
        due("load of the first 9 bytes", 1, () -> x.load(9));
        int[] want = {0, 7, 0, 0, 8, 7, 8, 0, 0, 0, 0, 0, -1, 1, 0, 0, 0};
        for (int i = 0; i < want.length; i++) dueState(x, i, want[i]);
        dueAlike(x, made("ship 7 8;"));
        due("no wind of the old text", 0, () -> x.wind(50));
        due("no yaw of the old text", 0, () -> x.foretold(9, 1));
        fill(x, "ship 7 8;");
        due("load of all but the last byte", -2, () -> x.load(8));
    }

    private static void nothingIsLeftOfAnError() {
        sentence("replaces all data by it");
        RudderSchedule x = new RudderSchedule();
        for (String text : new String[] {"yaw 7*(8+(9", "yaw 7*", "yaw (((((", "yaw 1+2*(3-4*x", "smooth;yaw 1;row 0 9 9 9;gust 0 0 9;x",
            "course 5;speed 5;rudder 10 1;pull 1;band 1;dead 1;off 1;dead 91"}) {
            due("load of " + text, true, () -> loaded(x, "ship 9 9;" + text) < 0);
            due("load behind " + text, 1, () -> loaded(x, "ship 7 8;yaw ((((1+2))))*3-4;"));
            dueAlike(x, made("ship 7 8;yaw ((((1+2))))*3-4;"));
            due("the yaw", 5, () -> x.foretold(1, 1));
        }
    }

    private static void bufferIsEmptyAfterwards() {
        sentence("The input buffer is empty afterwards, also if the text has an error.");
        RudderSchedule x = new RudderSchedule();
        fill(x, "ship 0 0;          ship 7 8;           ");
        due("a part without an error", 1, () -> x.load(9));
        due("nothing is left", BAD_ARGUMENT, () -> x.load(1));
        fill(x, "x                  ship 7 8;           ");
        due("a part with an error", -2, () -> x.load(1));
        due("nothing is left", BAD_ARGUMENT, () -> x.load(1));
        due("append behind it", 20, () -> x.append(0, 0, 0, 0, 0));
        due("load(0)", -2, () -> x.load(0));
        due("nothing is left", BAD_ARGUMENT, () -> x.load(1));
        fill(x, repeated(" ", 500));
        due("a full buffer", -2, () -> x.load(500));
        due("append behind it", 20, () -> x.append(0, 0, 0, 0, 0));
    }

    private static void errorLeavesData() {
        sentence("An error leaves all other data unchanged.");
        String errors = "ship 9 9;course 5;speed 5;rudder 10 1;pull 1;row 0 9 9 9;row 9 9 9 9;smooth;band 1;dead 1;off 1;gust 0 9 9;yaw 9;";
        for (String text : new String[] {"", "x", errors + "x", errors + "row 401 1 1 1;", errors + repeated("gust 0 0 1;", 8),
            errors.replace("yaw 9;", "yaw (((((9"), "ship 9 9"}) {
            RudderSchedule twin = shipOnItsWay();
            RudderSchedule x = shipOnItsWay();
            due("load of " + text, true, () -> loaded(x, text) < 0);
            dueAlike(x, twin);
            due("undo()", twin.undo(), x::undo);
            dueAlike(x, twin);
        }
    }

    private static void emptyText() {
        sentence("An empty text has a SYNTAX_ERROR.");
        RudderSchedule x = new RudderSchedule();
        due("load(0) of the empty buffer", RudderSchedule.SYNTAX_ERROR, () -> x.load(0));
        due("errorOffset()", 0, x::errorOffset);
        fill(x, "ship 0 0;");
        due("load(0)", RudderSchedule.SYNTAX_ERROR, () -> x.load(0));
        due("errorOffset()", 0, x::errorOffset);
    }

    private static void answersOfLoad() {
        sentence("Returns the number of rows; or the error code of the first error.");
        dueGood("ship 0 0;", 1);
        dueGood("ship 0 0;row 0 1 1 1;", 1);
        dueGood("ship 0 0;row 0 1 1 1;row 1 1 1 1;", 2);
        due("SYNTAX_ERROR", -2, () -> RudderSchedule.SYNTAX_ERROR);
        due("OUT_OF_RANGE", -3, () -> RudderSchedule.OUT_OF_RANGE);
        due("TOO_MANY", -4, () -> RudderSchedule.TOO_MANY);
        due("TOO_DEEP", -5, () -> RudderSchedule.TOO_DEEP);
        dueFault("ship 0 0;dead 91;yaw (((((", -3, 14);
        dueFault("ship 0 0;yaw (((((1;dead 91", -5, 17);
        dueFault("ship 0 0;yaw ((((1;dead 91", -2, 18);
    }

    private static void wrongLengths() {
        sentence("Throws `IllegalArgumentException` if length is negative or greater than the length of the buffer; the buffer is "
            + "unchanged then");
        RudderSchedule x = new RudderSchedule();
        fill(x, "ship 7 8;course 9;  ");
        for (int length : new int[] {-1, 21, 40, 500, 501, Integer.MIN_VALUE, Integer.MAX_VALUE}) {
            due("load(" + length + ")", BAD_ARGUMENT, () -> x.load(length));
        }
        due("append behind them", 40, () -> appendSpaces(x));
        due("load(41)", BAD_ARGUMENT, () -> x.load(41));
        due("load(40)", 1, () -> x.load(40));
        dueState(x, 5, 9);
    }

    private static void errorOffset() {
        sentence("Returns the offset of the error found by the latest call of load that did not throw; -1 if it found none or if there "
            + "was no such call.");
        RudderSchedule x = new RudderSchedule();
        due("no call of load", -1, x::errorOffset);
        due("load(-1)", BAD_ARGUMENT, () -> x.load(-1));
        due("only a call that threw", -1, x::errorOffset);
        loaded(x, "ship 0 0;z");
        due("an error", 9, x::errorOffset);
        due("load(-1)", BAD_ARGUMENT, () -> x.load(-1));
        due("load(1)", BAD_ARGUMENT, () -> x.load(1));
        due("the error ahead of those that threw", 9, x::errorOffset);
        loaded(x, "z");
        due("an error at 0", 0, x::errorOffset);
        loaded(x, "ship 0 0;");
        due("no error", -1, x::errorOffset);
        due("load(501)", BAD_ARGUMENT, () -> x.load(501));
        due("still none", -1, x::errorOffset);
        fill(x, repeated(" ", 500));
        x.load(500);
        due("an error at 500", 500, x::errorOffset);
    }
}
