import java.lang.reflect.Constructor;
import java.lang.reflect.Field;
import java.lang.reflect.Method;
import java.lang.reflect.Modifier;
import java.util.Arrays;
import java.util.Set;
import java.util.TreeSet;

/** The promises one by one, each with ordinary inputs, the edges that the document names, and wrong inputs. */
public final class PromisesTest extends Checks {
    public static void main(String[] args) {
        face();
        newObject();
        append();
        loadAnswers();
        loadDefaults();
        loadStatements();
        syntaxErrors();
        rangeErrors();
        otherErrors();
        spacesAndRuns();
        errorOffset();
        state();
        row();
        gain();
        wind();
        error();
        why();
        wanted();
        foretold();
        settles();
        swings();
        tunes();
        meanWear();
        passSpeedAndRudder();
        passSums();
        passYaw();
        passAlarms();
        passRange();
        steer();
        order();
        gust();
        gains();
        smooth();
        undo();
        checksum();
        finish();
    }

    /** The rate of turn behind the first tick: the value of the yaw, limited to -300 to 300. */
    private static void dueYaw(String statements, int want) {
        RudderSchedule x = made("ship 0 120;" + statements);
        x.pass(1);
        due("rate of turn behind a tick of " + statements, want, () -> x.state(2));
    }

    private static void face() {
        promise("The public face");
        Class<?> c = RudderSchedule.class;
        due("public final", Modifier.PUBLIC | Modifier.FINAL, c::getModifiers);
        due("SYNTAX_ERROR", -2, () -> RudderSchedule.SYNTAX_ERROR);
        due("OUT_OF_RANGE", -3, () -> RudderSchedule.OUT_OF_RANGE);
        due("TOO_MANY", -4, () -> RudderSchedule.TOO_MANY);
        due("TOO_DEEP", -5, () -> RudderSchedule.TOO_DEEP);
        Set<String> open = new TreeSet<>();
        Set<String> hidden = new TreeSet<>();
        for (Method method : c.getDeclaredMethods()) {
            if (method.isSynthetic()) continue;
            boolean isHidden = Modifier.isPrivate(method.getModifiers());
            (isHidden ? hidden : open).add(isHidden ? method.getName()
                : Modifier.toString(method.getModifiers()) + " " + method.getReturnType() + " " + method.getName() + Arrays.toString(method.getParameterTypes()));
        }
        due("methods", new TreeSet<>(Set.of(
            "public int append[int, int, int, int, int]", "public int load[int]", "public int errorOffset[]",
            "public int state[int]", "public int row[int, int]", "public int gain[int, int]", "public int wind[int]",
            "public int error[int, int]", "public int why[]", "public int wanted[]", "public int foretold[int, int]",
            "public int settles[int]", "public int swings[int]", "public int tunes[int, int]", "public double meanWear[]",
            "public int pass[int]", "public int steer[int]", "public int order[int]", "public int gust[int, int, int]",
            "public int gains[int, int, int, int]", "public boolean smooth[boolean]", "public int undo[]",
            "public long checksum[]")), () -> open);
        Set<String> throwing = new TreeSet<>();
        for (Method method : c.getDeclaredMethods()) {
            if (!Modifier.isPublic(method.getModifiers())) continue;
            for (Class<?> thrown : method.getExceptionTypes()) throwing.add(method.getName() + " " + thrown.getSimpleName());
        }
        Set<String> want = new TreeSet<>(Set.of("gust IllegalStateException"));
        for (String name : "load state row gain wind error foretold settles swings tunes pass steer order gust gains".split(" ")) {
            want.add(name + " IllegalArgumentException");
        }
        for (String name : "row tunes gains".split(" ")) want.add(name + " IndexOutOfBoundsException");
        due("exceptions that are declared", want, () -> throwing);
        for (String name : hidden) {
            due("no public method is named " + name, false, () -> open.toString().contains(" " + name + "["));
        }
        for (Field field : c.getDeclaredFields()) {
            boolean isConstant = Set.of("SYNTAX_ERROR", "OUT_OF_RANGE", "TOO_MANY", "TOO_DEEP").contains(field.getName());
            due("field " + field.getName(), isConstant, () -> !Modifier.isPrivate(field.getModifiers()));
        }
        Constructor<?>[] constructors = c.getDeclaredConstructors();
        due("constructors", 1, () -> constructors.length);
        due("constructor", "public RudderSchedule()", () -> constructors[0].toString());
    }

    private static void newObject() {
        promise("Promise 1");
        RudderSchedule x = new RudderSchedule();
        int[] want = {0, 0, 0, 0, 0, 0, 0, 0, 0, 0, 0, 0, -1, 1, 0, 0, 0};
        for (int i = 0; i < want.length; i++) dueState(x, i, want[i]);
        int[] row = {0, 100, 0, 200};
        for (int i = 0; i < row.length; i++) {
            int what = i;
            due("row(0, " + i + ")", row[i], () -> x.row(0, what));
        }
        due("load(1) of the empty buffer", BAD_ARGUMENT, () -> x.load(1));
        due("undo()", -1, x::undo);
        RudderSchedule y = made("ship 0 0;");
        due("checksum()", y.checksum(), x::checksum);
        x.steer(900);
        y.steer(900);
        x.order(123);
        y.order(123);
        for (int i = 0; i < 12; i++) {
            x.pass(3);
            y.pass(3);
            due("checksum() on the way", y.checksum(), x::checksum);
        }
        dueState(x, 4, 123);
    }

    private static void append() {
        promise("Promise 2");
        RudderSchedule x = new RudderSchedule();
        for (int i = 1; i <= 25; i++) due("append " + i, 20 * i, () -> x.append(0x73686970, 0x20302030, 0x3b202020, 0x20202020, 0x20202020));
        due("append 26", -1, () -> x.append(0, 0, 0, 0, 0));
        due("append 27", -1, () -> x.append(0, 0, 0, 0, 0));
        due("load(501)", BAD_ARGUMENT, () -> x.load(501));
        due("load(500)", -2, () -> x.load(500));
        due("errorOffset()", 20, x::errorOffset);
        due("append to the emptied buffer", 20, () -> x.append(0x73686970, 0x37203920, 0x3b202020, 0x20202020, 0x20202078));
        due("load(19)", 1, () -> x.load(19));
        dueState(x, 1, 7);
        dueState(x, 4, 9);
        x.append(0x73686970, 0x37203920, 0x3b202020, 0x20202020, 0x20202078);
        due("load(20), the last byte is x", -2, () -> x.load(20));
        due("errorOffset()", 19, x::errorOffset);
        x.append(0x73686970, 0x37203920, 0x3b2020ff, 0x20202020, 0x20202078);
        due("a byte above 127", -2, () -> x.load(20));
        due("errorOffset()", 11, x::errorOffset);
        x.append(0x73686970, 0x37203920, 0x3bb72020, 0x20202020, 0x20202078);
        due("a byte above 127 that ends like a digit", -2, () -> x.load(20));
        due("errorOffset()", 9, x::errorOffset);
    }

    private static void loadAnswers() {
        promise("Promise 3");
        RudderSchedule x = new RudderSchedule();
        due("load(0)", -2, () -> x.load(0));
        due("errorOffset()", 0, x::errorOffset);
        due("load(-1)", BAD_ARGUMENT, () -> x.load(-1));
        for (int n : WILD) due("load(" + n + ")", BAD_ARGUMENT, () -> x.load(n));
        fill(x, "ship 5 6;row 0 1 2 3;row 9 4 5 6;");
        due("load(41)", BAD_ARGUMENT, () -> x.load(41));
        due("append behind the exception", 60, () -> x.append(0, 0, 0, 0, 0));
        due("load(33)", 2, () -> x.load(33));
        due("load(1) of the emptied buffer", BAD_ARGUMENT, () -> x.load(1));
        x.pass(20);
        x.steer(700);
        x.gust(0, 9999, 3);
        x.pass(7);
        dueState(x, 0, 27);
        long before = x.checksum();
        due("load with an error", -2, () -> loaded(x, "ship 9 9;speed 3;row 0 7 7 7;smooth;gust 0 0 1;x"));
        due("checksum() behind the error", before, x::checksum);
        due("load(1) of the buffer emptied by the error", BAD_ARGUMENT, () -> x.load(1));
        due("undo() behind the error: that of pass", 4, x::undo);
        dueState(x, 0, 20);
        due("load that replaces all", 1, () -> loaded(x, "ship 5 6;"));
        due("checksum()", made("ship 5 6;").checksum(), x::checksum);
        loaded(x, "ship 0 0;yaw 3*(4+5);course 9;speed 8;rudder 20 2;pull 1;smooth;band 3;dead 1;off 7;gust 0 9 1;row 0 9 9 9;");
        due("an error inside of parentheses", -2, () -> loaded(x, "ship 0 0;yaw 7*(8+(9"));
        due("the error leaves the yaw", 27, () -> x.foretold(1, 1));
        due("an error behind an operator", -2, () -> loaded(x, "ship 0 0;yaw 7*"));
        due("another yaw", 1, () -> loaded(x, "ship 0 0;yaw 2+3;"));
        due("the other yaw", 5, () -> x.foretold(1, 1));
        due("no yaw", 1, () -> loaded(x, "ship 0 200;course 900;"));
        due("checksum() without statements again", made("ship 0 200;course 900;").checksum(), x::checksum);
        due("the usual yaw, limit and rate again", made("ship 0 200;course 900;").foretold(30, 0), () -> x.foretold(30, 0));
        due("the usual off again", 0, () -> made("ship 0 0;course 300;").foretold(9, 5));
        due("part of the buffer", 1, () -> {
            fill(x, "ship 1 2;course 3;");
            return x.load(9);
        });
        dueState(x, 5, 1);
    }

    private static void loadDefaults() {
        promise("Promise 3, setup text");
        RudderSchedule x = made("ship 1234 77;");
        int[] want = {0, 1234, 0, 0, 77, 1234, 77, 0, 0, 0, 0, 0, -1, 1, 0, 0, 0};
        for (int i = 0; i < want.length; i++) dueState(x, i, want[i]);
        due("row(0, 1)", 100, () -> x.row(0, 1));
        due("row(0, 2)", 0, () -> x.row(0, 2));
        due("row(0, 3)", 200, () -> x.row(0, 3));
        due("pull 5", 1, () -> x.order(82));
        due("pull 5", 2, () -> x.order(83));
        // The speed 0 keeps the ship on its heading, so each default shows by itself.
        RudderSchedule y = made("ship 0 0;");
        y.steer(1000);
        due("rate 30", 30, () -> y.foretold(1, 2));
        due("limit 350", 350, () -> y.foretold(50, 2));
        RudderSchedule z = made("ship 0 0;");
        z.steer(100);
        due("band 100", 100, () -> behindTick(z, 8));
        z.steer(101);
        due("beyond band 100", 0, () -> behindTick(z, 8));
        z.steer(5);
        due("dead 5", 1, z::why);
        due("beyond dead 5", 0, () -> made("ship 0 0;course 6;").why());
        z.steer(300);
        due("off 300", 0, () -> behindTick(z, 10));
        z.steer(301);
        due("beyond off 300", 1, () -> behindTick(z, 10));
    }

    private static void loadStatements() {
        promise("Promise 3, statements");
        RudderSchedule x = made("ship 3599 400;course 3599;speed 400;rudder 450 99;pull 50;row 0 999 99 999;row 400 0 0 0;"
            + "smooth;band 900;dead 90;off 1800;gust 9999 9999 -99;gust 0 9999 99;yaw 9999;");
        int[] want = {0, 3599, 0, 0, 400, 3599, 400, 0, 0, 0, 0, 0, -1, 2, 2, 1, 1};
        for (int i = 0; i < want.length; i++) dueState(x, i, want[i]);
        RudderSchedule y = made("ship 0 0;course 0;speed 0;rudder 10 1;pull 1;row 0 0 0 0;row 1 0 0 0;band 0;dead 0;off 1;gust 0 0 0;yaw 0;");
        due("pull 1", 400, () -> y.order(400));
        y.gains(0, 999, 0, 0);
        y.order(0);
        y.steer(2);
        due("rate 1", 1, () -> y.foretold(1, 2));
        due("limit 10", 10, () -> y.foretold(50, 2));
        due("off 1", 1, () -> y.foretold(5, 5));
        due("band 0", 0, () -> behindTick(y, 8));
        RudderSchedule z = made("ship 0 0;row 0 999 0 0;rudder 450 99;");
        z.steer(1800);
        due("rate 99", 99, () -> z.foretold(1, 2));
        due("limit 450", 450, () -> z.foretold(5, 2));
        dueGood("ship 0 0;row 0 1 1 1;row 1 1 1 1;row 2 1 1 1;row 3 1 1 1;row 4 1 1 1;row 5 1 1 1;row 6 1 1 1;row 400 1 1 1;", 8);
        dueGood("ship 0 0;" + repeated("gust 0 0 1;", 8), 1);
        dueGood("ship 0 0;yaw ((((1))))*((((2))));", 1);
        due("course differs from the heading", 20, () -> made("ship 3590 0;course 10;").state(7));
        due("course statement", 10, () -> made("ship 3590 0;course 10;").state(5));
        due("speed statement", 44, () -> made("ship 3590 1;speed 44;").state(6));
        due("the speed of ship", 1, () -> made("ship 3590 1;speed 44;").state(4));
        dueGood("ship 0 0;yaw " + repeated("1+", 242) + "1; ", 1);
    }

    private static void syntaxErrors() {
        promise("Promise 3, SYNTAX_ERROR");
        dueFault("    ", -2, 4);
        dueFault("x", -2, 0);
        dueFault("shipp 0 0;", -2, 0);
        dueFault("Ship 0 0;", -2, 0);
        dueFault("ship", -2, 4);
        dueFault("ship   ", -2, 7);
        dueFault("ship;", -2, 4);
        dueFault("ship 0 ;", -2, 7);
        dueFault("ship -1 0;", -2, 5);
        dueFault("ship 0 0", -2, 8);
        dueFault("ship 0 0 0;", -2, 9);
        dueFault("ship 0 0;;", -2, 9);
        dueFault("ship 0 0;ship 0 0;", -2, 9);
        dueFault("ship 0 0;rate 5;", -2, 9);
        dueFault("ship 0 0;5;", -2, 9);
        dueFault("ship 0 0;foo;", -2, 9);
        dueFault("ship 0 0;smooth 1;", -2, 16);
        dueFault("ship 0 0;smooth", -2, 15);
        dueFault("ship 0 0;smooth  ", -2, 17);
        dueFault("ship 0 0;course -5;", -2, 16);
        dueFault("ship 0 0;rudder 350;", -2, 19);
        dueFault("ship 0 0;row 0 1 2;", -2, 18);
        dueFault("ship 0 0;row 0 1 2 -3;", -2, 19);
        dueFault("ship 0 0;gust 0 1;", -2, 17);
        dueFault("ship 0 0;gust 0 1 - ;", -2, 20);
        dueFault("ship 0 0;gust 0 1 --1;", -2, 19);
        dueFault("ship 0 0;gust -1 1 1;", -2, 14);
        dueFault("ship 0 0;yaw;", -2, 12);
        dueFault("ship 0 0;yaw -1;", -2, 13);
        dueFault("ship 0 0;yaw 1 2;", -2, 15);
        dueFault("ship 0 0;yaw 2rudder;", -2, 14);
        dueFault("ship 0 0;yaw yaw;", -2, 13);
        dueFault("ship 0 0;yaw course;", -2, 13);
        dueFault("ship 0 0;yaw (1;", -2, 15);
        dueFault("ship 0 0;yaw (1", -2, 15);
        dueFault("ship 0 0;yaw 1);", -2, 14);
        dueFault("ship 0 0;yaw ();", -2, 14);
        dueFault("ship 0 0;yaw (1));", -2, 16);
        dueFault("ship 0 0;yaw 1+;", -2, 15);
        dueFault("ship 0 0;yaw 1+*2;", -2, 15);
        dueFault("ship 0 0;yaw 1(2);", -2, 14);
        dueFault("ship 0 0;yaw 1,2;", -2, 14);
        dueFault("ship 0\n0;", -2, 6);
        dueFault("ship 0\t0;", -2, 6);
        dueFault("ship 0 0;\0", -2, 9);
        for (String once : new String[] {"course 1", "speed 1", "rudder 10 1", "pull 1", "smooth", "band 1", "dead 1", "off 1", "yaw 1"}) {
            dueGood("ship 0 0;" + once + ";", 1);
            dueFault("ship 0 0;" + once + "; " + once + ";", -2, 11 + once.length());
        }
        dueFault("ship 0 0;smooth;course 1;smoo;smooth;", -2, 25);
    }

    private static void rangeErrors() {
        promise("Promise 3, OUT_OF_RANGE");
        dueFault("ship 3600 0;", -3, 5);
        dueFault("ship 3600 401", -3, 5);
        dueFault("ship 0 401;", -3, 7);
        dueFault("ship 0 0;course 3600;", -3, 16);
        dueFault("ship 0 0;speed 401;", -3, 15);
        dueFault("ship 0 0;rudder 9 1;", -3, 16);
        dueFault("ship 0 0;rudder 451 1;", -3, 16);
        dueFault("ship 0 0;rudder 10 0;", -3, 19);
        dueFault("ship 0 0;rudder 10 100;", -3, 19);
        dueFault("ship 0 0;pull 0;", -3, 14);
        dueFault("ship 0 0;pull 51;", -3, 14);
        dueFault("ship 0 0;row 1 0 0 0;", -3, 13);
        dueFault("ship 0 0;row 0 1000 0 0;", -3, 15);
        dueFault("ship 0 0;row 0 0 100 0;", -3, 17);
        dueFault("ship 0 0;row 0 0 0 1000;", -3, 19);
        dueFault("ship 0 0;row 0 0 0 0;row 0 0 0 0;", -3, 25);
        dueFault("ship 0 0;row 0 0 0 0;row 9 0 0 0;row 9 0 0 0;", -3, 37);
        dueFault("ship 0 0;row 0 0 0 0;row 401 0 0 0;", -3, 25);
        dueFault("ship 0 0;row 0 0 0 0;row 400 0 0 0;row 401 0 0 0;", -3, 39);
        dueFault("ship 0 0;band 901;", -3, 14);
        dueFault("ship 0 0;dead 91;", -3, 14);
        dueFault("ship 0 0;off 0;", -3, 13);
        dueFault("ship 0 0;off 1801;", -3, 13);
        dueFault("ship 0 0;gust 10000 10000 0;", -3, 14);
        dueFault("ship 0 0;gust 5 4 0;", -3, 16);
        dueFault("ship 0 0;gust 5 10000 0;", -3, 16);
        dueFault("ship 0 0;gust 5 5 100;", -3, 18);
        dueFault("ship 0 0;gust 5 5 -100;", -3, 18);
        dueFault("ship 0 0;gust 5 5 -  100;", -3, 18);
        dueFault("ship 0 0;yaw 10000;", -3, 13);
        dueFault("ship 0 0;yaw (rate*10000;", -3, 19);
        dueFault("ship 0 0;course 4294967296;", -3, 16);
        dueFault("ship 0 0;course 18446744073709551616;", -3, 16);
        dueFault("ship 0 0;course " + repeated("9", 300) + ";", -3, 16);
        dueFault("ship 0 0;course 1" + repeated("0", 300) + ";", -3, 16);
        dueFault("ship 0 0;course 3600x", -3, 16);
        due("leading zeros", 3599, () -> made("ship 0 0;course " + repeated("0", 400) + "3599;").state(5));
        due("-0", 0, () -> made("ship 0 0;gust 0 0 -0;").wind(0));
        due("- 007", -7, () -> made("ship 0 0;gust 0 0 - 007;").wind(0));
    }

    private static void otherErrors() {
        promise("Promise 3, TOO_MANY and TOO_DEEP");
        StringBuilder rows = new StringBuilder("ship 0 0;");
        for (int i = 0; i < 8; i++) rows.append("row ").append(i).append(" 1 1 1;");
        dueGood(rows.toString(), 8);
        dueFault(rows + "row 9 1 1 1;", -4, rows.length());
        dueFault(rows + " row", -4, rows.length() + 1);
        dueFault(rows + "row 0 x", -4, rows.length());
        String gusts = "ship 0 0;" + repeated("gust 0 0 1;", 8);
        dueFault(gusts + "gust 0 0 1;", -4, gusts.length());
        dueFault(gusts + "  gust 0 0 100;", -4, gusts.length() + 2);
        dueFault("ship 0 0;yaw (((((1)))));", -5, 17);
        dueFault("ship 0 0;yaw (((( (", -5, 18);
        dueFault("ship 0 0;yaw ((((1+(", -5, 19);
        dueFault("ship 0 0;yaw ((((1(", -2, 18);
        dueFault("ship 0 0;yaw ((((1))+(((1", -5, 23);
        dueGood("ship 0 0;yaw ((((1))+((1))));", 1);
    }

    private static void spacesAndRuns() {
        promise("Promise 3, tokens");
        due("spaces", 2, () -> loaded(new RudderSchedule(), "  ship  1  2  ;  row 0 1 2 3 ; row 4 5 6 7 ; yaw  (  1  +  rate  )  ;   "));
        RudderSchedule x = made("ship1 2;course3;row0 4 5 6;gust7 8-9;yaw2*(speed+1)/3;smooth;");
        dueState(x, 1, 1);
        dueState(x, 4, 2);
        dueState(x, 5, 3);
        due("row(0, 3)", 6, () -> x.row(0, 3));
        due("wind(8)", -9, () -> x.wind(8));
        due("the yaw", 2, () -> x.foretold(1, 1));
        dueFault("ship 0 0;smoothcourse 5;", -2, 9);
        dueFault("ship 0 0;yawrudder;", -2, 9);
        dueFault("ship 0 0;cour se 5;", -2, 9);
        dueFault("ship 0 0;zmooth;", -2, 9);
        dueFault("ship 0 0;smoothz;", -2, 9);
        dueFault("ship 0 0;smootha;", -2, 9);
        dueFault("ship 0 0;smooth{;", -2, 15);
        dueFault("ship 0 0;smooth`;", -2, 15);
        dueFault("ship 0 0;course 5:;", -2, 17);
        dueFault("ship 0 0;" + repeated(" ", 485) + "smooth", -2, 500);
        dueGood("ship 0 0;" + repeated(" ", 484) + "smooth;", 1);
        dueFault("ship 0 0;course 3 5;", -2, 18);
        dueFault("ship 0 0;course" + repeated("e", 400) + " 5;", -2, 9);
    }

    private static void errorOffset() {
        promise("Promise 4");
        RudderSchedule x = new RudderSchedule();
        due("without a load", -1, x::errorOffset);
        loaded(x, "ship 0 0;z");
        due("behind an error", 9, x::errorOffset);
        due("a load that throws", BAD_ARGUMENT, () -> x.load(1));
        due("behind the exception", 9, x::errorOffset);
        loaded(x, "ship 0 0;");
        due("behind a success", -1, x::errorOffset);
        loaded(x, "ship 0 0;course 4000;");
        due("behind another error", 16, x::errorOffset);
        x.undo();
        due("behind undo", 16, x::errorOffset);
    }

    private static void state() {
        promise("Promise 5");
        RudderSchedule x = made("ship 3500 100;course 100;row 0 100 0 0;row 60 90 0 0;row 120 80 0 0;off 150;band 300;rudder 300 40;gust 0 9 1;");
        x.smooth(true);
        x.order(130);
        x.pass(6);
        // Tick by tick P is 83, 82, 81, 80, 80, 80; the error 200, 197, 190, 178, 161, 140; the rudder 40, 80, 120, 142,
        // 128, 112; the rate of turn 3, 7, 12, 17, 21, 22.
        int[] want = {6, 3582, 22, 112, 130, 100, 130, 118, 1066, 172, 0, 1, 4, 3, 1, 1, 2};
        for (int i = 0; i < want.length; i++) dueState(x, i, want[i]);
        due("state(7)", x.error(x.state(1), x.state(5)), () -> x.state(7));
        due("state(-1)", BAD_ARGUMENT, () -> x.state(-1));
        due("state(17)", BAD_ARGUMENT, () -> x.state(17));
        for (int n : WILD) due("state(" + n + ")", BAD_ARGUMENT, () -> x.state(n));
        x.smooth(false);
        dueState(x, 15, 0);
        RudderSchedule y = made("ship 0 59;row 0 100 0 0;row 60 90 0 0;");
        dueState(y, 16, 0);
        y.order(60);
        dueState(y, 16, 0);
        y.pass(1);
        dueState(y, 16, 1);
    }

    private static void row() {
        promise("Promise 6");
        RudderSchedule x = made("ship 0 0;row 0 1 2 3;row 40 5 6 7;");
        int[] want = {0, 1, 2, 3, 40, 5, 6, 7};
        for (int i = 0; i < 8; i++) {
            int at = i;
            due("row(" + i / 4 + ", " + i % 4 + ")", want[i], () -> x.row(at / 4, at % 4));
        }
        due("row(2, 0)", BAD_INDEX, () -> x.row(2, 0));
        due("row(-1, 0)", BAD_INDEX, () -> x.row(-1, 0));
        due("row(2, 4)", BAD_INDEX, () -> x.row(2, 4));
        due("row(1, 4)", BAD_ARGUMENT, () -> x.row(1, 4));
        due("row(1, -1)", BAD_ARGUMENT, () -> x.row(1, -1));
        for (int n : WILD) due("row(" + n + ", 0)", BAD_INDEX, () -> x.row(n, 0));
        for (int n : WILD) due("row(0, " + n + ")", BAD_ARGUMENT, () -> x.row(0, n));
    }

    private static void gain() {
        promise("Promise 7");
        RudderSchedule x = made("ship 0 0;row 0 100 10 300;row 100 110 3 0;row 400 10 99 999;");
        due("gain(99, 1)", 100, () -> x.gain(99, 1));
        due("gain(100, 1)", 110, () -> x.gain(100, 1));
        due("gain(100, 2)", 3, () -> x.gain(100, 2));
        due("gain(100, 3)", 0, () -> x.gain(100, 3));
        due("gain(399, 3)", 0, () -> x.gain(399, 3));
        due("gain(400, 3)", 999, () -> x.gain(400, 3));
        x.smooth(true);
        due("smooth gain(0, 1)", 100, () -> x.gain(0, 1));
        due("smooth gain(99, 1)", 109, () -> x.gain(99, 1));
        due("smooth gain(99, 2): 10 + -693 / 100", 4, () -> x.gain(99, 2));
        due("smooth gain(1, 3): 300 + -300 / 100", 297, () -> x.gain(1, 3));
        due("smooth gain(1, 2): 10 + -7 / 100", 10, () -> x.gain(1, 2));
        due("smooth gain(250, 1)", 60, () -> x.gain(250, 1));
        due("smooth gain(399, 2)", 98, () -> x.gain(399, 2));
        due("smooth gain(400, 2)", 99, () -> x.gain(400, 2));
        due("gain(-1, 1)", BAD_ARGUMENT, () -> x.gain(-1, 1));
        due("gain(401, 1)", BAD_ARGUMENT, () -> x.gain(401, 1));
        due("gain(0, 0)", BAD_ARGUMENT, () -> x.gain(0, 0));
        due("gain(0, 4)", BAD_ARGUMENT, () -> x.gain(0, 4));
        for (int n : WILD) due("gain(" + n + ", 1)", BAD_ARGUMENT, () -> x.gain(n, 1));
        for (int n : WILD) due("gain(0, " + n + ")", BAD_ARGUMENT, () -> x.gain(0, n));
    }

    private static void wind() {
        promise("Promise 8");
        RudderSchedule x = made("ship 0 0;gust 2 4 10;gust 4 9999 -99;gust 9999 9999 1;");
        int[] ticks = {0, 1, 2, 3, 4, 5, 9998, 9999, 10000, 20000};
        int[] want = {0, 0, 10, 10, -89, -99, -99, -98, 0, 0};
        for (int i = 0; i < ticks.length; i++) {
            int tick = ticks[i];
            due("wind(" + tick + ")", want[i], () -> x.wind(tick));
        }
        due("wind(-1)", BAD_ARGUMENT, () -> x.wind(-1));
        due("wind(20001)", BAD_ARGUMENT, () -> x.wind(20001));
        for (int n : WILD) due("wind(" + n + ")", BAD_ARGUMENT, () -> x.wind(n));
    }

    private static void error() {
        promise("Promise 9");
        RudderSchedule x = new RudderSchedule();
        int[][] want = {{0, 0, 0}, {0, 1800, 1800}, {1800, 0, 1800}, {0, 1801, -1799}, {1801, 0, 1799}, {1799, 0, -1799},
            {3599, 0, 1}, {0, 3599, -1}, {10, 1810, 1800}, {3599, 1799, 1800}, {1799, 3599, 1800}, {500, 400, -100}};
        for (int[] w : want) due("error(" + w[0] + ", " + w[1] + ")", w[2], () -> x.error(w[0], w[1]));
        due("error(-1, 0)", BAD_ARGUMENT, () -> x.error(-1, 0));
        due("error(0, -1)", BAD_ARGUMENT, () -> x.error(0, -1));
        due("error(3600, 0)", BAD_ARGUMENT, () -> x.error(3600, 0));
        due("error(0, 3600)", BAD_ARGUMENT, () -> x.error(0, 3600));
        for (int n : WILD) due("error(" + n + ", 0)", BAD_ARGUMENT, () -> x.error(n, 0));
        for (int n : WILD) due("error(0, " + n + ")", BAD_ARGUMENT, () -> x.error(0, n));
    }

    private static void why() {
        promise("Promise 10");
        RudderSchedule x = made("ship 0 0;row 0 100 0 100;dead 3;rudder 40 30;yaw wind;gust 0 0 2;gust 1 1 1;");
        due("small", 1, x::why);
        x.steer(3);
        due("error of dead", 1, x::why);
        x.steer(4);
        due("error beyond dead", 0, x::why);
        x.steer(3597);
        due("error of -dead", 1, x::why);
        x.steer(3596);
        due("error beyond -dead", 0, x::why);
        x.steer(40);
        due("beyond the rate", 3, x::why);
        x.steer(3560);
        due("beyond the rate to the left", 3, x::why);
        x.steer(30);
        due("just the rate", 0, x::why);
        x.steer(41);
        due("beyond the limit", 2, x::why);
        x.steer(3559);
        due("beyond the limit to the left", 2, x::why);
        RudderSchedule turned = made("ship 0 0;row 0 100 0 0;yaw 0;course 20;");
        turned.pass(1);
        turned.steer(50);
        due("just the rate from the rudder 20 on", 0, turned::why);
        turned.steer(51);
        due("beyond the rate from the rudder 20 on", 3, turned::why);
        turned.steer(3590);
        due("just the rate back", 0, turned::why);
        turned.steer(3589);
        due("beyond the rate back", 3, turned::why);
        x.steer(0);
        x.pass(1);
        x.steer(x.state(1));
        due("rate of turn 2", 1, x::why);
        x.pass(1);
        x.steer(x.state(1));
        due("rate of turn 3", 0, x::why);
        due("wanted by the rate of turn", -3, x::wanted);
        RudderSchedule z = made("ship 0 9;speed 10;row 0 10 0 0;row 10 999 0 0;course 100;");
        due("by the speed of the next tick", 2, z::why);
        due("nothing passed", 9, () -> z.state(4));
    }

    private static void wanted() {
        promise("Promise 11");
        RudderSchedule x = made("ship 0 0;row 0 999 99 999;band 900;course 900;");
        due("P and the sum of the next tick", (999 * 900 + 99 * 900 / 10) / 100, x::wanted);
        dueState(x, 8, 0);
        x.pass(1);
        due("the sum of two ticks", (999 * 900 + 99 * 1800 / 10) / 100, x::wanted);
        x.steer(901);
        due("the sum is lost", 999 * 901 / 100, x::wanted);
        x.steer(2700);
        due("to the left", -(999 * 900 - 99 * (900 - 900) / 10) / 100, x::wanted);
        RudderSchedule y = made("ship 0 0;row 0 0 1 0;dead 0;course 9;");
        due("9 / 10", 0, y::wanted);
        y.pass(1);
        due("18 / 10 / 100", 0, y::wanted);
        RudderSchedule z = made("ship 0 0;row 0 1 1 0;dead 0;course 95;");
        due("(95 + 95 / 10) / 100", 1, z::wanted);
        z.steer(3505);
        due("(-95 - 95 / 10) / 100", -1, z::wanted);
        RudderSchedule d = made("ship 0 0;row 0 0 0 100;dead 0;yaw 7;");
        d.pass(1);
        due("D against the rate of turn", -7, d::wanted);
        RudderSchedule s = made("ship 0 0;row 0 0 99 0;dead 9;band 900;course 900;yaw 0;");
        for (int i = 0; i < 3; i++) s.pass(1);
        s.steer(9);
        due("0 whatever the sum", 0, s::wanted);
        s.steer(10);
        due("the sum behind dead", 99 * 2710 / 10 / 100, s::wanted);
        RudderSchedule m = made("ship 0 0;row 0 100 0 0;row 10 200 0 0;smooth;speed 5;pull 5;course 100;");
        due("the gains of the next tick's speed", 150, m::wanted);
    }

    private static void foretold() {
        promise("Promise 12");
        RudderSchedule x = made("ship 3500 100;course 100;row 0 100 0 0;off 150;rudder 300 40;gust 3 9 -4;speed 120;pull 3;");
        RudderSchedule y = made("ship 3500 100;course 100;row 0 100 0 0;off 150;rudder 300 40;gust 3 9 -4;speed 120;pull 3;");
        x.pass(4);
        y.pass(4);
        int wear = y.state(9);
        int alarms = y.state(11);
        int greatest = 0;
        long before = x.checksum();
        for (int ticks = 1; ticks <= 60; ticks++) {
            y.pass(1);
            greatest = Math.max(greatest, Math.abs(y.state(7)));
            int[] want = {y.state(1), y.state(2), y.state(3), y.state(4), y.state(9) - wear, y.state(11) - alarms, greatest};
            for (int what = 0; what < 7; what++) {
                int t = ticks;
                int w = what;
                due("foretold(" + t + ", " + w + ")", want[w], () -> x.foretold(t, w));
            }
        }
        due("nothing passed", before, x::checksum);
        due("an alarm is foretold", 1, () -> made("ship 0 0;course 900;").foretold(5, 5));
        due("no alarm is foretold", 0, () -> made("ship 0 0;course 900;").foretold(4, 5));
        due("only one alarm is foretold", 1, () -> made("ship 0 0;course 900;").foretold(300, 5));
        due("the error ahead of the ticks does not count", 90, () -> made("ship 0 0;course 100;yaw 10-rate;").foretold(1, 6));
        due("an error to the left", 110, () -> made("ship 0 0;course 3500;yaw 10-rate;").foretold(1, 6));
        due("the greatest, not the last", 90, () -> made("ship 0 0;course 100;yaw 10-rate;").foretold(5, 6));
        due("no error behind any tick", 0, () -> new RudderSchedule().foretold(9, 6));
        RudderSchedule again = made("ship 0 0;course 100;yaw 10-rate;");
        again.foretold(300, 6);
        due("a smaller one after a greater one", 90, () -> again.foretold(1, 6));
        due("wraps", 10, () -> made("ship 3590 0;yaw 20;").foretold(1, 0));
        due("foretold(0, 0)", BAD_ARGUMENT, () -> x.foretold(0, 0));
        due("foretold(301, 0)", BAD_ARGUMENT, () -> x.foretold(301, 0));
        due("foretold(300, 0)", true, () -> x.foretold(300, 0) >= 0);
        due("foretold(1, -1)", BAD_ARGUMENT, () -> x.foretold(1, -1));
        due("foretold(1, 7)", BAD_ARGUMENT, () -> x.foretold(1, 7));
        for (int n : WILD) due("foretold(" + n + ", 1)", BAD_ARGUMENT, () -> x.foretold(n, 1));
        for (int n : WILD) due("foretold(1, " + n + ")", BAD_ARGUMENT, () -> x.foretold(1, n));
    }

    private static void settles() {
        promise("Promise 13");
        due("at once", 5, () -> new RudderSchedule().settles(5));
        // The ship turns by 10 in each tick: behind tick n the error is 100 - 10 n.
        RudderSchedule x = made("ship 0 0;course 100;yaw 10-rate;dead 20;");
        due("errors 20, 10, 0, -10, -20 are of the ticks 8 to 12", 12, () -> x.settles(300));
        due("settles(12)", 12, () -> x.settles(12));
        due("settles(11)", -1, () -> x.settles(11));
        due("one short", -1, () -> made("ship 0 0;course 100;yaw 10-rate;dead 19;").settles(300));
        due("one short to the left", -1, () -> made("ship 0 0;course 95;yaw 10-rate;dead 20;").settles(300));
        x.pass(10);
        due("ticks that have passed do not count", -1, () -> x.settles(300));
        due("the edge dead", 5, () -> made("ship 0 0;course 20;yaw 0;dead 20;").settles(300));
        due("the edge -dead", 5, () -> made("ship 20 0;course 0;yaw 0;dead 20;").settles(300));
        due("beyond the edge", -1, () -> made("ship 21 0;course 0;yaw 0;dead 20;").settles(300));
        due("the first time counts", 5, () -> made("ship 0 0;yaw wind;gust 20 20 50;").settles(300));
        due("nothing passed", 10, () -> x.state(0));
        due("settles(4)", BAD_ARGUMENT, () -> x.settles(4));
        due("settles(301)", BAD_ARGUMENT, () -> x.settles(301));
        for (int n : WILD) due("settles(" + n + ")", BAD_ARGUMENT, () -> x.settles(n));
    }

    private static void swings() {
        promise("Promise 14");
        RudderSchedule x = made("ship 0 0;course 95;yaw 10-rate;");
        due("swings(9): error 5 is on this side", 0, () -> x.swings(9));
        due("swings(10)", 5, () -> x.swings(10));
        due("swings(20)", 105, () -> x.swings(20));
        RudderSchedule y = made("ship 95 0;course 0;yaw 0-10-rate;");
        due("to the left, swings(9)", 0, () -> y.swings(9));
        due("to the left, swings(12)", 25, () -> y.swings(12));
        due("no error now", 0, () -> made("ship 0 0;yaw 10;").swings(300));
        due("the greatest, not the last", 15, () -> made("ship 0 0;course 95;yaw wind-rate;gust 0 10 10;gust 11 19 -10;").swings(20));
        due("an error that wraps has another sign", 1799, () -> made("ship 0 0;course 1799;yaw 0-2-rate;").swings(1));
        due("nothing passed", 0, () -> x.state(0));
        due("swings(0)", BAD_ARGUMENT, () -> x.swings(0));
        due("swings(301)", BAD_ARGUMENT, () -> x.swings(301));
        due("swings(300)", true, () -> x.swings(300) > 0);
        for (int n : WILD) due("swings(" + n + ")", BAD_ARGUMENT, () -> x.swings(n));
    }

    private static void tunes() {
        promise("Promise 15");
        due("all are alike: the smallest", 0, () -> new RudderSchedule().tunes(0, 100));
        String stiff = "ship 0 0;course 50;dead 2;rudder 450 99;row 0 7 0 0;row 100 7 0 0;yaw rudder/10-rate;";
        String smooth = "ship 0 100;course 200;dead 30;rudder 350 20;row 0 7 0 500;row 150 80 0 300;smooth;";
        String steps = "ship 0 100;course 200;dead 30;rudder 350 20;row 0 7 0 500;row 99 80 0 300;row 200 50 0 100;";
        dueTuned(stiff, 0, 100, 400);
        // Only 400 settles behind 12 ticks.
        dueTuned(stiff, 0, 12, 400);
        dueTuned(stiff, 0, 11, 0);
        dueTuned(stiff, 1, 100, 0);
        // From 320 on it settles behind 17 ticks; with 380 and 400 it swings by 31 then, with the others by 32.
        dueTuned(smooth, 0, 100, 380);
        // From 240 to 300 it settles behind 17 ticks; with 280 it swings the least.
        dueTuned(smooth, 1, 100, 280);
        // With 160 and 180 it settles behind 17 ticks and swings by 32.
        dueTuned(steps, 1, 100, 160);
        dueTuned(steps, 2, 100, 0);
        // From 120 to 340 it settles behind 16 ticks.
        dueTuned("ship 0 0;course 300;dead 90;rudder 450 20;row 0 7 0 50;yaw rudder/20-rate/4;", 0, 60, 120);
        // It never settles so soon, and swings from 220 on.
        dueTuned("ship 0 100;course 200;dead 9;row 0 7 0 200;", 0, 12, 0);
        // It never settles here either; the swing alone decides.
        dueTuned("ship 0 0;course 10;dead 0;row 0 7 0 0;yaw 12-rate-rudder;", 0, 5, 120);
        RudderSchedule x = made(smooth);
        long before = x.checksum();
        x.tunes(0, 100);
        due("nothing changes", before, x::checksum);
        due("tunes(1, 5)", true, () -> made(smooth).tunes(1, 5) >= 0);
        due("tunes(2, 5)", BAD_INDEX, () -> x.tunes(2, 5));
        due("tunes(-1, 5)", BAD_INDEX, () -> x.tunes(-1, 5));
        due("tunes(2, 4)", BAD_INDEX, () -> x.tunes(2, 4));
        due("tunes(0, 4)", BAD_ARGUMENT, () -> x.tunes(0, 4));
        due("tunes(0, 101)", BAD_ARGUMENT, () -> x.tunes(0, 101));
        for (int n : WILD) due("tunes(" + n + ", 5)", BAD_INDEX, () -> x.tunes(n, 5));
        for (int n : WILD) due("tunes(0, " + n + ")", BAD_ARGUMENT, () -> x.tunes(0, n));
    }

    private static void dueTuned(String text, int row, int limit, int want) {
        due("tunes of " + text, want, () -> made(text).tunes(row, limit));
        due("by hand of " + text, want, () -> tunedByHand(text, row, limit));
    }

    /** The tuned gain by the other calls: each P is set and asked for settles and swings. */
    private static int tunedByHand(String text, int row, int limit) {
        RudderSchedule x = made(text);
        int best = -1;
        int soonest = 0;
        int least = 0;
        for (int p = 0; p <= 400; p += 20) {
            x.gains(row, p, x.row(row, 2), x.row(row, 3));
            int settled = x.settles(limit) == -1 ? Integer.MAX_VALUE : x.settles(limit);
            int swing = x.swings(limit);
            if (best < 0 || settled < soonest || settled == soonest && swing < least) {
                best = p;
                soonest = settled;
                least = swing;
            }
        }
        return best;
    }

    private static void meanWear() {
        promise("Promise 16");
        RudderSchedule x = made("ship 0 0;course 1800;rudder 450 7;");
        due("at the time 0", 0.0, x::meanWear);
        x.pass(3);
        due("behind 3 ticks", 7.0, x::meanWear);
        x.steer(0);
        x.pass(1);
        due("the way back counts too", 28.0 / 4.0, x::meanWear);
        x.pass(3);
        due("28 and 14 in 7 ticks", 42.0 / 7.0, x::meanWear);
        x.pass(4);
        due("42 in 11 ticks", 42.0 / 11.0, x::meanWear);
        RudderSchedule y = made("ship 0 0;course 1800;rudder 450 7;");
        y.pass(1);
        y.undo();
        due("at the time 0 again", 0.0, y::meanWear);
    }

    private static void passSpeedAndRudder() {
        promise("Promise 17, (1), (3) and (4)");
        RudderSchedule x = made("ship 0 100;speed 93;pull 3;course 90;row 0 100 0 0;rudder 70 30;yaw 0;");
        int[] speeds = {97, 94, 93, 93};
        int[] rudders = {30, 60, 70, 70};
        int[] wears = {30, 60, 70, 70};
        for (int i = 0; i < 4; i++) {
            x.pass(1);
            dueState(x, 4, speeds[i]);
            dueState(x, 3, rudders[i]);
            dueState(x, 9, wears[i]);
        }
        x.order(400);
        x.steer(3510);
        x.pass(50);
        dueState(x, 4, 243);
        dueState(x, 3, -70);
        dueState(x, 9, 210);
        x.steer(0);
        x.pass(1);
        due("back to 0 by the rate", -40, () -> x.state(3));
        RudderSchedule y = made("ship 0 0;course 10;row 0 0 50 0;dead 0;yaw 0;");
        y.pass(10);
        due("I * sum / 10 / 100", 50 * 100 / 10 / 100, () -> y.state(3));
    }

    private static void passSums() {
        promise("Promise 17, (2)");
        RudderSchedule x = made("ship 0 0;course 900;band 900;row 0 0 0 0;yaw 0;");
        x.pass(22);
        dueState(x, 8, 19800);
        x.pass(1);
        dueState(x, 8, 20000);
        x.steer(2700);
        x.pass(1);
        dueState(x, 8, 19100);
        x.pass(44);
        dueState(x, 8, -20000);
        x.steer(901);
        x.pass(1);
        dueState(x, 8, 0);
        x.steer(5);
        x.pass(2);
        due("errors that are small are added too", 10, () -> x.state(8));
        x.steer(2699);
        x.pass(1);
        dueState(x, 8, 0);
    }

    private static void passYaw() {
        promise("Promise 17, (5) and (6)");
        dueYaw("yaw 2+3*4;", 14);
        dueYaw("yaw (2+3)*4;", 20);
        dueYaw("yaw 20-3-4;", 13);
        dueYaw("yaw 20-(3-4);", 21);
        dueYaw("yaw 100/7/3;", 4);
        dueYaw("yaw 100/7*7;", 98);
        dueYaw("yaw 7*100/9*2;", 154);
        dueYaw("yaw 2*3+4*5-6/2;", 23);
        dueYaw("yaw 1-2*3;", -5);
        dueYaw("yaw (0-7)/2;", -3);
        dueYaw("yaw 7/(0-2);", -3);
        dueYaw("yaw 5/0;", 0);
        dueYaw("yaw 5/(3-3)+8;", 8);
        dueYaw("yaw 9999*9999/5000;", 200);
        dueYaw("yaw (0-9999)*9999/5000;", -200);
        dueYaw("yaw 9999*9999*9999/5000-90;", 110);
        dueYaw("yaw 9999*100+9999-9999*100;", 100);
        dueYaw("yaw 9999*100+9999*100-9999*100;", 100);
        dueYaw("yaw (0-9999*100-9999)+9999*99+9999;", -100);
        dueYaw("yaw 9999;", 300);
        dueYaw("yaw 0-9999;", -300);
        dueYaw("yaw speed;", 120);
        dueYaw("speed 130;yaw speed;", 125);
        dueYaw("gust 0 0 -9;gust 1 1 50;yaw wind;", -9);
        dueYaw("course 900;yaw rudder;", 30);
        dueYaw("course 900;", 30 * 120 / 2000);
        dueYaw("speed 129;pull 9;rudder 31 31;course 900;", 31 * 129 / 2000);
        dueYaw("speed 125;pull 5;rudder 32 32;course 900;", 32 * 125 / 2000);
        dueYaw("course 2700;gust 0 9 7;", 7 - 30 * 120 / 2000);
        dueYaw("yaw ((((1+2)*3+4)*5+6)*2+7)*1;", 149);
        dueYaw("yaw 1+(2*(3+(4*(5+1))));", 55);
        RudderSchedule x = made("ship 3590 0;yaw 7-rate/2;");
        int[] rates = {7, 11, 13, 14, 14};
        int[] headings = {3597, 8, 21, 35, 49};
        for (int i = 0; i < 5; i++) {
            x.pass(1);
            dueState(x, 2, rates[i]);
            dueState(x, 1, headings[i]);
        }
        RudderSchedule y = made("ship 5 0;yaw 0-10;");
        y.pass(1);
        dueState(y, 1, 3595);
        y.pass(40);
        dueState(y, 2, -300);
        RudderSchedule z = made("ship 0 300;course 900;");
        z.pass(1);
        // 30 * 300 / 2000
        dueState(z, 2, 4);
        z.pass(1);
        // 60 * 300 / 2000 - 4 / 3
        dueState(z, 2, 4 + 9 - 1);
    }

    private static void passAlarms() {
        promise("Promise 17, (7) and (8)");
        RudderSchedule x = made("ship 0 0;course 301;yaw 0;");
        due("4 ticks off", 0, () -> x.pass(4));
        dueState(x, 10, 4);
        dueState(x, 12, -1);
        due("the 5th tick", 1, () -> x.pass(1));
        dueState(x, 10, 5);
        dueState(x, 11, 1);
        dueState(x, 12, 4);
        due("not if they are more", 0, () -> x.pass(50));
        dueState(x, 10, 55);
        dueState(x, 12, 4);
        dueState(x, 0, 55);
        x.steer(300);
        x.pass(1);
        dueState(x, 10, 0);
        x.steer(3299);
        due("an alarm to the left", 1, () -> x.pass(7));
        dueState(x, 11, 2);
        dueState(x, 12, 60);
        x.steer(3300);
        due("-off is not off", 0, () -> x.pass(1));
        dueState(x, 10, 0);
        due("two in one call", 2, () -> made("ship 0 0;off 10;yaw wind-rate;gust 0 5 20;gust 12 20 5;gust 6 11 -20;").pass(50));
        RudderSchedule y = made("ship 0 0;off 10;course 10;yaw 10-rate;");
        y.pass(1);
        due("the error of (2), ahead of the turn", 0, () -> y.state(10));
        y.pass(3);
        dueState(y, 10, 1);
    }

    private static void passRange() {
        promise("Promise 17");
        RudderSchedule x = new RudderSchedule();
        due("pass(1)", 0, () -> x.pass(1));
        due("pass(50)", 0, () -> x.pass(50));
        due("pass(0)", BAD_ARGUMENT, () -> x.pass(0));
        due("pass(51)", BAD_ARGUMENT, () -> x.pass(51));
        for (int n : WILD) due("pass(" + n + ")", BAD_ARGUMENT, () -> x.pass(n));
        dueState(x, 0, 51);
        due("exceptions are no changes", 1, x::undo);
    }

    private static void steer() {
        promise("Promise 18");
        RudderSchedule x = made("ship 3000 0;");
        due("steer(0)", 600, () -> x.steer(0));
        dueState(x, 5, 0);
        due("steer(3599)", 599, () -> x.steer(3599));
        due("steer(1200)", 1800, () -> x.steer(1200));
        due("steer(1201)", -1799, () -> x.steer(1201));
        due("steer(-1)", BAD_ARGUMENT, () -> x.steer(-1));
        due("steer(3600)", BAD_ARGUMENT, () -> x.steer(3600));
        for (int n : WILD) due("steer(" + n + ")", BAD_ARGUMENT, () -> x.steer(n));
        dueState(x, 5, 1201);
    }

    private static void order() {
        promise("Promise 19");
        RudderSchedule x = made("ship 0 100;pull 7;");
        due("order(100)", 0, () -> x.order(100));
        due("order(107)", 1, () -> x.order(107));
        due("order(108)", 2, () -> x.order(108));
        due("order(93)", 1, () -> x.order(93));
        due("order(92)", 2, () -> x.order(92));
        due("order(400)", 43, () -> x.order(400));
        due("order(0)", 15, () -> x.order(0));
        dueState(x, 6, 0);
        dueState(x, 4, 100);
        x.pass(14);
        dueState(x, 4, 2);
        x.pass(1);
        dueState(x, 4, 0);
        due("order(-1)", BAD_ARGUMENT, () -> x.order(-1));
        due("order(401)", BAD_ARGUMENT, () -> x.order(401));
        for (int n : WILD) due("order(" + n + ")", BAD_ARGUMENT, () -> x.order(n));
    }

    private static void gust() {
        promise("Promise 20");
        RudderSchedule x = new RudderSchedule();
        x.pass(4);
        due("gust ahead", 0, () -> x.gust(5, 9, 50));
        due("gust behind", 0, () -> x.gust(0, 3, 50));
        due("gust now", -99, () -> x.gust(4, 4, -99));
        due("the sum", 0, () -> x.gust(0, 9999, 99));
        dueState(x, 14, 4);
        due("first -1", BAD_ARGUMENT, () -> x.gust(-1, 5, 0));
        due("first 10000", BAD_ARGUMENT, () -> x.gust(10000, 10000, 0));
        due("last 10000", BAD_ARGUMENT, () -> x.gust(5, 10000, 0));
        due("last before first", BAD_ARGUMENT, () -> x.gust(5, 4, 0));
        due("strength 100", BAD_ARGUMENT, () -> x.gust(5, 5, 100));
        due("strength -100", BAD_ARGUMENT, () -> x.gust(5, 5, -100));
        for (int n : WILD) due("first " + n, BAD_ARGUMENT, () -> x.gust(n, 5, 0));
        for (int n : WILD) due("last " + n, BAD_ARGUMENT, () -> x.gust(5, n, 0));
        for (int n : WILD) due("strength " + n, BAD_ARGUMENT, () -> x.gust(5, 5, n));
        dueState(x, 14, 4);
        for (int i = 0; i < 4; i++) due("gust", i + 1, () -> x.gust(0, 9999, 1));
        due("a 9th gust", BAD_STATE, () -> x.gust(0, 9999, 1));
        due("a wrong 9th gust", BAD_ARGUMENT, () -> x.gust(0, 9999, 100));
        dueState(x, 14, 8);
        due("undo makes room", 7, x::undo);
        due("the 8th again", 4, () -> x.gust(9999, 9999, 99) + 1);
        due("gusts of the setup count", BAD_STATE, () -> made("ship 0 0;" + repeated("gust 0 0 1;", 8)).gust(0, 0, 1));
        due("wind(9999)", 99 + 3 + 99, () -> x.wind(9999));
        RudderSchedule late = new RudderSchedule();
        for (int i = 0; i < 201; i++) late.pass(50);
        due("late in time", 0, () -> late.gust(0, 9999, 99));
    }

    private static void gains() {
        promise("Promise 21");
        RudderSchedule x = made("ship 0 50;row 0 100 0 0;row 100 200 0 0;");
        due("the row in use", 999, () -> x.gains(0, 999, 99, 998));
        due("row(0, 2)", 99, () -> x.row(0, 2));
        due("row(0, 3)", 998, () -> x.row(0, 3));
        due("another row", 999, () -> x.gains(1, 99, 0, 0));
        due("row(1, 1)", 99, () -> x.row(1, 1));
        due("its speed stays", 100, () -> x.row(1, 0));
        x.smooth(true);
        due("smooth", 549, () -> x.gains(1, 99, 5, 5));
        due("gains(2, ..)", BAD_INDEX, () -> x.gains(2, 0, 0, 0));
        due("gains(-1, ..)", BAD_INDEX, () -> x.gains(-1, 0, 0, 0));
        due("gains(2, 1000, ..)", BAD_INDEX, () -> x.gains(2, 1000, 0, 0));
        due("P 1000", BAD_ARGUMENT, () -> x.gains(0, 1000, 0, 0));
        due("P -1", BAD_ARGUMENT, () -> x.gains(0, -1, 0, 0));
        due("I 100", BAD_ARGUMENT, () -> x.gains(0, 0, 100, 0));
        due("I -1", BAD_ARGUMENT, () -> x.gains(0, 0, -1, 0));
        due("D 1000", BAD_ARGUMENT, () -> x.gains(0, 0, 0, 1000));
        due("D -1", BAD_ARGUMENT, () -> x.gains(0, 0, 0, -1));
        for (int n : WILD) due("row " + n, BAD_INDEX, () -> x.gains(n, 0, 0, 0));
        due("nothing changed", 999, () -> x.row(0, 1));
        due("zeros", 49, () -> x.gains(0, 0, 0, 0));
    }

    private static void smooth() {
        promise("Promise 22");
        RudderSchedule x = made("ship 0 50;row 0 100 0 0;row 100 200 0 0;");
        due("smooth(false)", false, () -> x.smooth(false));
        due("smooth(true)", false, () -> x.smooth(true));
        due("gain(50, 1)", 150, () -> x.gain(50, 1));
        due("smooth(true)", true, () -> x.smooth(true));
        due("smooth(false)", true, () -> x.smooth(false));
        due("gain(50, 1)", 100, () -> x.gain(50, 1));
        due("each is a change", 4, x::undo);
        due("smooth by the setup", true, () -> made("ship 0 0;smooth;").smooth(false));
    }

    private static void undo() {
        promise("Promise 23");
        RudderSchedule x = new RudderSchedule();
        due("nothing to undo", -1, x::undo);
        long[] sums = new long[12];
        sums[0] = x.checksum();
        loaded(x, "ship 100 200;course 400;row 0 90 5 80;row 150 70 3 60;gust 0 50 2;dead 1;yaw rudder*speed/1500-rate/2+wind;");
        sums[1] = x.checksum();
        x.pass(9);
        sums[2] = x.checksum();
        x.steer(3000);
        sums[3] = x.checksum();
        x.order(60);
        sums[4] = x.checksum();
        x.gust(3, 30, -8);
        sums[5] = x.checksum();
        x.gains(1, 1, 2, 3);
        sums[6] = x.checksum();
        x.smooth(true);
        sums[7] = x.checksum();
        due("one way", 7, () -> x.undo() + 1);
        due("gone back one", sums[6], x::checksum);
        x.smooth(true);
        fill(x, "ship 1 1;x");
        due("an error", -2, () -> x.load(10));
        fill(x, "ship 1 1;");
        for (int i = 6; i >= 0; i--) {
            int left = i;
            due("undo", left, x::undo);
            due("gone back to " + i, sums[i], x::checksum);
        }
        due("none left", -1, x::undo);
        due("nothing changes", sums[0], x::checksum);
        due("errorOffset() is not affected", 9, x::errorOffset);
        due("nor is the buffer", 1, () -> x.load(9));
        dueState(x, 1, 1);

        RudderSchedule y = new RudderSchedule();
        for (int i = 1; i <= 11; i++) y.steer(i);
        for (int i = 7; i >= 4; i--) {
            int left = i;
            due("undo of 11", left, y::undo);
        }
        dueState(y, 5, 7);
        y.steer(100);
        y.steer(200);
        due("undo behind new ones", 5, y::undo);
        due("undo behind new ones", 4, y::undo);
        for (int i = 3; i >= 0; i--) {
            int left = i;
            due("undo to the last", left, y::undo);
        }
        dueState(y, 5, 3);
        due("the 3rd is final", -1, y::undo);
        dueState(y, 5, 3);
        y.smooth(false);
        due("a change that leaves all data", 0, y::undo);

        RudderSchedule z = made("ship 0 100;course 500;yaw rudder/9-rate/2;");
        z.pass(7);
        int want = z.foretold(20, 0);
        loaded(z, "ship 0 100;course 500;rudder 50 5;pull 1;band 9;dead 90;off 9;yaw 3;");
        z.undo();
        due("undo brings the whole setup back", want, () -> z.foretold(20, 0));
        due("and its alarms", 0, () -> z.foretold(3, 5));
    }

    private static void checksum() {
        promise("Promise 24");
        RudderSchedule x = new RudderSchedule();
        due("of a new object", byHand(x), x::checksum);
        loaded(x, "ship 100 200;course 400;row 0 90 5 80;row 150 70 3 60;gust 0 50 2;dead 1;smooth;");
        for (int i = 0; i < 12; i++) {
            due("on the way", byHand(x), x::checksum);
            x.pass(3);
        }
        RudderSchedule y = new RudderSchedule();
        for (int i = 0; i < 400; i++) y.pass(50);
        dueState(y, 0, 20000);
        due("at the time 20000", byHand(y), y::checksum);
        y.pass(1);
        due("at the time 20001", byHand(y), y::checksum);
        due("of an empty run of zeros", true, () -> y.checksum() != 0);
    }

    private static long byHand(RudderSchedule x) {
        long sum = 0;
        for (int i = 0; i <= 16; i++) sum = sum * 31 + x.state(i);
        for (int row = 0; row < x.state(13); row++) {
            for (int what = 0; what < 4; what++) sum = sum * 31 + x.row(row, what);
        }
        sum = sum * 31 + x.wanted();
        sum = sum * 31 + x.why();
        return x.state(0) > 20000 ? sum : sum * 31 + x.wind(x.state(0));
    }
}
