/** The sentences of "Setup text" that name a boundary case. */
public final class SetupBoundariesTest extends Checks {
    private static final String SHIP = "ship 0 0;";
    /** Each statement that may occur once, complete but for the ";". */
    private static final String[] ONCE = {"course 1", "speed 1", "rudder 10 1", "pull 1", "smooth", "band 1", "dead 1", "off 1", "yaw 1"};
    private static final String[] WORDS = {"ship", "course", "speed", "rudder", "pull", "row", "smooth", "band", "dead", "off", "gust",
        "yaw", "rate", "wind"};

    public static void main(String[] args) {
        section("Terms");
        fiveHundredBytes();
        setup();
        statementsAreComplete();
        statementsEnd();
        signs();
        sums();
        terms();
        factors();
        numbersAndWords();
        longestRuns();
        spaces();
        numberBesideWord();
        otherBytes();
        defaults();
        rowNumbers();
        noRows();
        gustNumbers();
        factorNumbers();
        onceOrOften();
        fourDeep();
        smallestOffset();
        sameOffset();
        notAllowed();
        endOfTheText();
        secondStatements();
        outOfRange();
        tooMany();
        tooDeep();
        finish();
    }

    private static void fiveHundredBytes() {
        sentence("The setup text is read from an input buffer of at most 500 bytes.");
        dueGood(SHIP + repeated(" ", 484) + "smooth;", 1);
        dueGood(SHIP + "dead " + repeated("0", 484) + "7;", 1);
        dueGood(SHIP + "yaw " + repeated("1+", 242) + "12;", 1);
        dueGood(SHIP + "yaw " + repeated("rate*", 96) + "speed ;", 1);
        dueGood(repeated(" ", 491) + SHIP, 1);
        dueFault(SHIP + "yaw " + repeated("1+", 243) + "1", -2, 500);
        dueFault(repeated(" ", 500), -2, 500);
        dueFault(SHIP + repeated(" ", 490) + "x", -2, 499);
        RudderSchedule x = new RudderSchedule();
        fill(x, SHIP + repeated(" ", 491));
        due("more than 500 bytes", BAD_ARGUMENT, () -> x.load(501));
        due("500 bytes", 1, () -> x.load(500));
    }

    private static void setup() {
        sentence("setup = \"ship\" number number \";\" { statement \";\" }");
        dueGood("ship 0 0;", 1);
        dueGood("ship 0 0;smooth;", 1);
        dueGood("ship 0 0;smooth;dead 1;", 1);
        dueFault("smooth;", -2, 0);
        dueFault("0 0;", -2, 0);
        dueFault(";", -2, 0);
        dueFault("ship 0;", -2, 6);
        dueFault("ship 0 0 0;", -2, 9);
        dueFault("ship 0 0 smooth;", -2, 9);
        dueFault("ship 0 0;;", -2, 9);
        dueFault("ship 0 0;smooth;;", -2, 16);
        dueFault("ship 0 0;smooth dead 1;", -2, 16);
        dueFault("ship 0 0;ship 0 0;", -2, 9);
        dueFault("ship 0 0;0;", -2, 9);
        for (String word : WORDS) {
            boolean isStatement = !word.equals("ship") && !word.equals("rate") && !word.equals("wind");
            int ahead = SHIP.length();
            dueFault(SHIP + word, -2, isStatement ? ahead + word.length() : ahead);
            dueFault(word, -2, word.equals("ship") ? 4 : 0);
        }
    }

    /** A statement with a number less, or with one more, than it must have. */
    private static void dueNumbers(String word, String... numbers) {
        StringBuilder text = new StringBuilder(SHIP).append(word);
        for (String number : numbers) {
            dueFault(text + ";", -2, text.length());
            dueFault(text + " x;", -2, text.length() + 1);
            text.append(' ').append(number);
        }
        dueGood(text + ";", 1);
        dueFault(text + " 1;", -2, text.length() + 1);
        dueFault(text + " x;", -2, text.length() + 1);
        dueFault(text + ",", -2, text.length());
    }

    private static void statementsAreComplete() {
        sentence("statement = \"course\" number | \"speed\" number | \"rudder\" number number | \"pull\" number | \"row\" number number "
            + "number number | \"smooth\" | \"band\" number | \"dead\" number | \"off\" number | \"gust\" number number sign | \"yaw\" sum");
        dueNumbers("course", "3");
        dueNumbers("speed", "3");
        dueNumbers("rudder", "30", "3");
        dueNumbers("pull", "3");
        dueNumbers("row", "0", "1", "2", "3");
        dueNumbers("smooth");
        dueNumbers("band", "3");
        dueNumbers("dead", "3");
        dueNumbers("off", "3");
        dueNumbers("gust", "3", "4", "5");
        dueNumbers("gust", "3", "4", "-5");
        dueNumbers("yaw", "3");
    }

    private static void statementsEnd() {
        sentence("{ statement \";\" }");
        for (String statement : new String[] {"row 0 1 1 1", "gust 0 0 1", "course 1", "speed 1", "rudder 10 1", "pull 1", "smooth",
            "band 1", "dead 1", "off 1", "yaw 1"}) {
            int end = SHIP.length() + statement.length();
            dueFault(SHIP + statement, -2, end);
            dueFault(SHIP + statement + "  ", -2, end + 2);
            dueFault(SHIP + statement + " row 1 1 1 1;", -2, end + 1);
            dueFault(SHIP + statement + ":", -2, end);
            dueGood(SHIP + statement + " ; ", 1);
        }
    }

    private static void signs() {
        sentence("sign = [ \"-\" ] number");
        int[][] want = {{5, 5}, {-5, -5}, {0, 0}, {99, 99}, {-99, -99}};
        for (int[] w : want) due("strength " + w[0], w[1], () -> made(SHIP + "gust 0 0 " + w[0] + ";").wind(0));
        due("-0", 0, () -> made(SHIP + "gust 0 0 -0;").wind(0));
        due("a space behind the -", -7, () -> made(SHIP + "gust 0 0 - 7;").wind(0));
        due("no space ahead of the -", -7, () -> made(SHIP + "gust 0 0-7;").wind(0));
        dueFault(SHIP + "gust 0 0 --7;", -2, 19);
        dueFault(SHIP + "gust 0 0 +7;", -2, 18);
        dueFault(SHIP + "gust 0 0 -;", -2, 19);
        dueFault(SHIP + "gust 0 0 - x;", -2, 20);
        dueFault(SHIP + "gust 0 0 -", -2, 19);
        dueFault(SHIP + "gust 0 -0 7;", -2, 16);
        dueFault(SHIP + "gust -0 0 7;", -2, 14);
        dueFault(SHIP + "course -0;", -2, 16);
        dueFault(SHIP + "row -0 1 1 1;", -2, 13);
        dueFault("ship -0 0;", -2, 5);
    }

    private static void sums() {
        sentence("sum = term { ( \"+\" | \"-\" ) term }");
        dueBehindTick(SHIP + "yaw 7;", 2, 7);
        dueBehindTick(SHIP + "yaw 7+1;", 2, 8);
        dueBehindTick(SHIP + "yaw 7-1;", 2, 6);
        dueBehindTick(SHIP + "yaw 7-1+3-2;", 2, 7);
        dueFault(SHIP + "yaw +7;", -2, 13);
        dueFault(SHIP + "yaw -7;", -2, 13);
        dueFault(SHIP + "yaw 7+;", -2, 15);
        dueFault(SHIP + "yaw 7-;", -2, 15);
        dueFault(SHIP + "yaw 7+-1;", -2, 15);
        dueFault(SHIP + "yaw 7--1;", -2, 15);
        dueFault(SHIP + "yaw 7 1;", -2, 15);
        dueFault(SHIP + "yaw 7 rate;", -2, 15);
        dueFault(SHIP + "yaw ;", -2, 13);
    }

    private static void terms() {
        sentence("term = factor { ( \"*\" | \"/\" ) factor }");
        dueBehindTick(SHIP + "yaw 7*2;", 2, 14);
        dueBehindTick(SHIP + "yaw 7/2;", 2, 3);
        dueBehindTick(SHIP + "yaw 7/2*5;", 2, 15);
        dueBehindTick(SHIP + "yaw 1+7*2;", 2, 15);
        dueBehindTick(SHIP + "yaw 7*2+1;", 2, 15);
        dueFault(SHIP + "yaw *7;", -2, 13);
        dueFault(SHIP + "yaw /7;", -2, 13);
        dueFault(SHIP + "yaw 7*;", -2, 15);
        dueFault(SHIP + "yaw 7/;", -2, 15);
        dueFault(SHIP + "yaw 7*/2;", -2, 15);
        dueFault(SHIP + "yaw 7*-2;", -2, 15);
        dueFault(SHIP + "yaw 7%2;", -2, 14);
    }

    private static void factors() {
        sentence("factor = number | \"rudder\" | \"speed\" | \"rate\" | \"wind\" | \"(\" sum \")\"");
        for (String factor : new String[] {"0", "rudder", "speed", "rate", "wind", "(0)", "((0))"}) {
            dueGood(SHIP + "yaw " + factor + ";", 1);
            dueGood(SHIP + "yaw(" + factor + "+" + factor + ")*" + factor + ";", 1);
        }
        for (String word : WORDS) {
            boolean isFactor = word.equals("rudder") || word.equals("speed") || word.equals("rate") || word.equals("wind");
            dueFault(SHIP + "yaw " + word + ";", isFactor ? 1 : -2, isFactor ? -1 : 13);
        }
        dueFault(SHIP + "yaw x;", -2, 13);
        dueFault(SHIP + "yaw ();", -2, 14);
        dueFault(SHIP + "yaw (1;", -2, 15);
        dueFault(SHIP + "yaw (1", -2, 15);
        dueFault(SHIP + "yaw ((1);", -2, 17);
        dueFault(SHIP + "yaw 1);", -2, 14);
        dueFault(SHIP + "yaw (1));", -2, 16);
        dueFault(SHIP + "yaw );", -2, 13);
        dueFault(SHIP + "yaw (1+);", -2, 16);
        dueFault(SHIP + "yaw (1)(2);", -2, 16);
        dueFault(SHIP + "yaw 1(2);", -2, 14);
        dueFault(SHIP + "yaw (1)2;", -2, 16);
        dueFault(SHIP + "yaw (1 2);", -2, 16);
    }

    private static void numbersAndWords() {
        sentence("A number is a run of decimal digits, of any length (leading zeros do not matter); a word is a run of the letters a "
            + "to z.");
        for (int zeros : new int[] {0, 1, 9, 10, 11, 19, 20, 21, 100, 400}) {
            String nought = repeated("0", zeros);
            dueState(made("ship " + nought + "3599 0;"), 1, 3599);
            dueState(made(SHIP + "course " + nought + "0;"), 5, 0);
            dueFault(SHIP + "course " + nought + "3600;", -3, 16);
            dueGood(SHIP + "yaw " + nought + "9999;", 1);
            due("a sign", -99, () -> made(SHIP + "gust 0 0 -" + nought + "99;").wind(0));
        }
        for (int digits : new int[] {5, 9, 10, 11, 19, 20, 21, 32, 100, 480}) {
            dueFault(SHIP + "course 1" + repeated("0", digits) + ";", -3, 16);
            dueFault(SHIP + "course " + repeated("9", digits) + ";", -3, 16);
        }
        // Their last 32 or 64 bits alone would be in the range.
        for (String wrapped : new String[] {"4294967296", "4294967297", "8589934593", "18446744073709551616", "18446744073709551617",
            "36893488147419103233"}) {
            dueFault(SHIP + "course " + wrapped + ";", -3, 16);
            dueFault(SHIP + "gust 0 0 -" + wrapped + ";", -3, 18);
            dueFault(SHIP + "yaw " + wrapped + ";", -3, 13);
        }
        // The bytes beside the digits and the letters.
        for (String sign : new String[] {"/", ":", "@", "[", "`", "{", "A", "Z", "\u00b2", "\u00e9"}) {
            dueFault(SHIP + "course 5" + sign + ";", -2, 17);
            dueFault(SHIP + "smooth" + sign + ";", -2, 15);
        }
        dueFault("Ship 0 0;", -2, 0);
        dueFault("SHIP 0 0;", -2, 0);
        dueFault("shiP 0 0;", -2, 0);
        dueFault(SHIP + "smootH;", -2, 9);
    }

    private static void longestRuns() {
        sentence("Each run is as long as possible.");
        dueFault("shipx 0 0;", -2, 0);
        dueFault("shi p 0 0;", -2, 0);
        dueFault(SHIP + "smoothcourse 5;", -2, 9);
        dueFault(SHIP + "yawrate;", -2, 9);
        dueFault(SHIP + "smootha;", -2, 9);
        dueFault(SHIP + "smoothz;", -2, 9);
        dueFault(SHIP + "yaw raterate;", -2, 13);
        dueFault(SHIP + "rows 0 1 1 1;", -2, 9);
        dueFault(SHIP + "ro w 0 1 1 1;", -2, 9);
        dueFault(SHIP + "cours 5;", -2, 9);
        dueFault(SHIP + "course 3 5;", -2, 18);
        dueState(made(SHIP + "course 35;"), 5, 35);
        dueFault(SHIP + "rudder 3501;", -3, 16);
        dueFault(SHIP + "a" + repeated("z", 489) + ";", -2, 9);
        for (String word : WORDS) {
            String longer = word + "a";
            dueFault(SHIP + "yaw " + longer + ";", -2, 13);
            dueFault(SHIP + longer + " 0;", -2, 9);
            dueFault(SHIP + word.substring(1) + " 0;", -2, 9);
            dueFault(SHIP + word.substring(0, word.length() - 1) + " 0;", -2, 9);
            for (int at = 0; at < word.length(); at++) {
                String other = word.substring(0, at) + "z" + word.substring(at + 1);
                dueFault(SHIP + other + " 0;", -2, 9);
                dueFault(SHIP + "yaw " + other + ";", -2, 13);
                if (word.equals("ship")) dueFault(other + " 0 0;", -2, 0);
            }
        }
    }

    private static void spaces() {
        sentence("Spaces (byte 32) may precede any token and may follow the last one;");
        dueGood("   ship   0   0   ;   row   0   1   2   3   ;   gust   1   2   -   3   ;   yaw   (   1   +   rate   )   *   2   ;   ", 1);
        dueGood(SHIP + "  ", 1);
        dueGood("ship 0 0 ;", 1);
        dueGood(" ship 0 0;", 1);
        dueFault("   x", -2, 3);
        dueFault(SHIP + "   x", -2, 12);
        dueFault(SHIP + "course    3600;", -3, 19);
        dueFault("ship 0 0 ", -2, 9);
    }

    private static void numberBesideWord() {
        sentence("a word and a number side by side need none between them.");
        RudderSchedule x = made("ship12 34;course56;speed78;row0 1 2 3;row9 4 5 6;gust7 8-9;yaw2*(1+rate);");
        int[][] want = {{1, 12}, {4, 34}, {5, 56}, {6, 78}, {13, 2}, {14, 1}};
        for (int[] w : want) dueState(x, w[0], w[1]);
        due("the yaw", 2, () -> x.foretold(1, 1));
        dueFault("ship 0 0;course5speed6;", -2, 16);
        dueFault("ship 0 0;yaw 2rate;", -2, 14);
        dueFault("ship 0 0;yaw rate2;", -2, 17);
        dueFault("ship00;", -2, 6);
    }

    private static void otherBytes() {
        sentence("No other byte separates tokens.");
        for (int sign = 0; sign < 256; sign++) {
            String between = "ship 5" + (char) sign + "6;";
            if (sign == ' ') {
                dueGood(between, 1);
            } else {
                dueFault(between, -2, sign >= '0' && sign <= '9' ? 8 : 6);
            }
            if (sign != ' ') dueFault(SHIP + (char) sign, -2, 9);
            if (sign != ' ' && sign != ';') dueFault((char) sign + SHIP, -2, 0);
        }
    }

    private static void defaults() {
        sentence("Without their statements the course and the ordered speed are as those, the rudder has the limit 350 and the rate "
            + "30, the pull is 5, the band 100, dead 5, off 300.");
        RudderSchedule x = made("ship 3599 400;");
        dueState(x, 5, 3599);
        dueState(x, 6, 400);
        dueState(made("ship 3599 400;course 0;"), 5, 0);
        dueState(made("ship 3599 400;speed 0;"), 6, 0);
        due("the rate 30", 30, () -> made(SHIP + "course 31;").foretold(1, 2));
        due("less than the rate 30", 29, () -> made(SHIP + "course 29;").foretold(1, 2));
        due("the limit 350", 350, () -> made(SHIP + "course 351;").foretold(20, 2));
        due("less than the limit 350", 349, () -> made(SHIP + "course 349;").foretold(20, 2));
        due("the limit 350, reason", 2, () -> made(SHIP + "course 351;").why());
        due("not the limit 350, reason", 3, () -> made(SHIP + "course 350;").why());
        due("the pull 5", 1, () -> made(SHIP).order(5));
        due("more than the pull 5", 2, () -> made(SHIP).order(6));
        dueBehindTick(SHIP + "course 100;", 8, 100);
        dueBehindTick(SHIP + "course 101;", 8, 0);
        due("dead 5", 0, () -> made(SHIP + "course 5;").wanted());
        due("more than dead 5", 6, () -> made(SHIP + "course 6;").wanted());
        dueBehindTick(SHIP + "course 300;", 10, 0);
        dueBehindTick(SHIP + "course 301;", 10, 1);
        RudderSchedule again = made(SHIP + "course 9;speed 9;rudder 10 1;pull 1;band 9;dead 9;off 9;smooth;gust 0 9 9;yaw 9;row 0 9 9 9;");
        due("load without statements", 1, () -> loaded(again, "ship 3599 400;"));
        due("checksum()", x.checksum(), again::checksum);
        for (int what = 0; what <= 6; what++) {
            int w = what;
            RudderSchedule fresh = made(SHIP);
            loaded(again, SHIP);
            for (RudderSchedule each : new RudderSchedule[] {fresh, again}) {
                each.steer(700);
                each.order(300);
            }
            due("foretold(60, " + w + ") as without statements", fresh.foretold(60, w), () -> again.foretold(60, w));
        }
    }

    private static void rowNumbers() {
        sentence("Those of row are its speed (0 for the first row, for others greater than that of the row before, up to 400), P, I "
            + "and D;");
        String first = SHIP + "row 0 1 1 1;";
        dueRangeOfRow(SHIP + "row ", " 1 1 1;", 0, 0);
        dueRangeOfRow(first + "row ", " 1 1 1;", 1, 400);
        dueRangeOfRow(first + "row 7 1 1 1;row ", " 1 1 1;", 8, 400);
        dueRangeOfRow(first + "row 399 1 1 1;row ", " 1 1 1;", 400, 400);
        String full = first + "row 400 1 1 1;row ";
        for (int speed : new int[] {0, 399, 400, 401}) dueFault(full + speed + " 1 1 1;", -3, full.length());
        dueRangeOfRow(SHIP + "row 0 ", " 1 1;", 0, 999);
        dueRangeOfRow(SHIP + "row 0 1 ", " 1;", 0, 99);
        dueRangeOfRow(SHIP + "row 0 1 1 ", ";", 0, 999);
        dueRangeOfRow(first + "row 7 ", " 1 1;", 0, 999);
        dueRangeOfRow(first + "row 7 1 ", " 1;", 0, 99);
        dueRangeOfRow(first + "row 7 1 1 ", ";", 0, 999);
    }

    private static void dueRangeOfRow(String ahead, String behind, int low, int high) {
        int rows = ahead.split("row", -1).length - 1;
        dueRange(ahead, behind, low, high, rows);
    }

    /** A number from low to high, but no other, may stand between these texts. */
    private static void dueRange(String ahead, String behind, int low, int high, int rows) {
        int offset = ahead.length();
        if (low > 0) {
            dueFault(ahead + (low - 1) + behind, -3, offset);
            dueFault(ahead + "0" + behind, -3, offset);
        }
        dueGood(ahead + low + behind, rows);
        dueGood(ahead + "000" + low + behind, rows);
        dueGood(ahead + high + behind, rows);
        dueFault(ahead + (high + 1) + behind, -3, offset);
        dueFault(ahead + "000" + (high + 1) + behind, -3, offset);
        dueFault(ahead + Integer.MAX_VALUE + behind, -3, offset);
        dueFault(ahead + "2147483648" + behind, -3, offset);
    }

    private static void noRows() {
        sentence("without rows there is one with the speed 0 and the gains 100, 0 and 200.");
        for (String text : new String[] {"ship 0 400;", "ship 0 400;smooth;course 5;"}) {
            RudderSchedule x = made(text);
            dueState(x, 13, 1);
            int[] want = {0, 100, 0, 200};
            for (int what = 0; what < 4; what++) {
                int w = what;
                due("row(0, " + w + ")", want[w], () -> x.row(0, w));
                if (w > 0) due("gain(400, " + w + ")", want[w], () -> x.gain(400, w));
            }
            due("row(1, 0)", BAD_INDEX, () -> x.row(1, 0));
        }
        RudderSchedule y = made(SHIP + "row 0 0 0 0;");
        dueState(y, 13, 1);
        due("a row of zeros is a row", 0, () -> y.row(0, 1));
    }

    private static void gustNumbers() {
        sentence("Those of gust are its first tick, its last tick (not less than the first) and its strength.");
        dueRange(SHIP + "gust ", " 9999 1;", 0, 9999, 1);
        dueRange(SHIP + "gust 0 ", " 1;", 0, 9999, 1);
        dueRange(SHIP + "gust 37 ", " 1;", 37, 9999, 1);
        dueRange(SHIP + "gust 9999 ", " 1;", 9999, 9999, 1);
        dueRange(SHIP + "gust 0 0 ", ";", 0, 99, 1);
        due("one tick", 5, () -> made(SHIP + "gust 37 37 5;").wind(37));
        due("ahead of it", 0, () -> made(SHIP + "gust 37 37 5;").wind(36));
        due("behind it", 0, () -> made(SHIP + "gust 37 37 5;").wind(38));
    }

    private static void factorNumbers() {
        sentence("A number as a factor is 0 to 9999.");
        dueRange(SHIP + "yaw ", ";", 0, 9999, 1);
        dueRange(SHIP + "yaw 1+", ";", 0, 9999, 1);
        dueRange(SHIP + "yaw 1*(2-", ");", 0, 9999, 1);
        dueRange(SHIP + "yaw ((((", "))))/2;", 0, 9999, 1);
        dueBehindTick(SHIP + "yaw 0;", 2, 0);
        dueBehindTick(SHIP + "yaw 9999/50;", 2, 199);
        dueBehindTick(SHIP + "yaw 9999-9998;", 2, 1);
    }

    private static void onceOrOften() {
        sentence("The statements row and gust may occur several times, the others once each.");
        for (String once : ONCE) {
            dueGood(SHIP + once + ";", 1);
            dueFault(SHIP + once + ";" + once + ";", -2, 10 + once.length());
            for (String other : ONCE) {
                if (!other.equals(once)) dueGood(SHIP + once + ";" + other + ";", 1);
            }
        }
        dueGood(SHIP + String.join(";", ONCE) + ";", 1);
        dueGood(SHIP + "row 0 1 1 1;row 1 1 1 1;", 2);
        dueGood(SHIP + "row 0 1 1 1;smooth;row 1 1 1 1;gust 0 0 1;row 2 1 1 1;gust 0 0 1;", 3);
        dueGood(SHIP + "gust 0 0 1;gust 0 0 1;", 1);
    }

    private static void fourDeep() {
        sentence("Parentheses nest at most 4 deep.");
        for (int deep = 1; deep <= 4; deep++) dueGood(SHIP + "yaw " + repeated("(", deep) + "7" + repeated(")", deep) + ";", 1);
        for (int deep = 5; deep <= 9; deep++) dueFault(SHIP + "yaw " + repeated("(", deep) + "7" + repeated(")", deep) + ";", -5, 17);
        dueGood(SHIP + "yaw ((((1))))+((((2))))*((((3))))-((((4))));", 1);
        dueGood(SHIP + "yaw " + repeated("(1)+", 100) + "1;", 1);
        dueBehindTick(SHIP + "yaw 1+(2*(3+(4*(5+6))));", 2, 95);
        dueBehindTick(SHIP + "yaw 2-3*(4-5*(6-7*(8-9*(1-2*3))));", 2, -300);
        dueBehindTick(SHIP + "yaw (2-1*(3-2*(4-3*(5-4*1))));", 2, 1);
        dueBehindTick(SHIP + "yaw ((((9-1)/2-1)*5-1)/3-2);", 2, 2);
    }

    private static void smallestOffset() {
        sentence("The first error in the text is the one with the smallest offset.");
        dueFault("ship 3600 401;course 3600", -3, 5);
        dueFault("ship 3599 401;course 3600", -3, 10);
        dueFault("ship 3599 400;course 3600", -3, 21);
        dueFault("ship 3599 400;course 3599", -2, 25);
        dueFault(SHIP + "pull 51x;", -3, 14);
        dueFault(SHIP + "smooth;smooth;pull 51;", -2, 16);
        dueFault(SHIP + "smooth;pull 51;smooth;", -3, 21);
        dueFault(SHIP + "gust 5 4 100;", -3, 16);
        dueFault(SHIP + "gust 0 0 -100", -3, 18);
        dueFault(SHIP + "row 0 1 1 1;row 0 1000 100;", -3, 25);
        dueFault(SHIP + "yaw 10000+((((((1", -3, 13);
        dueFault(SHIP + "yaw ((((((10000", -5, 17);
        dueFault(SHIP + "yaw ((((10000+(1", -3, 17);
        dueFault(SHIP + "yaw )((((((", -2, 13);
        String gusts = SHIP + repeated("gust 0 0 1;", 8);
        dueFault(gusts + "gust 9 8 100", -4, gusts.length());
        dueFault(gusts + "dead 91;gust 9 8 100", -3, gusts.length() + 5);
    }

    private static void sameOffset() {
        sentence("If several kinds of error have the same offset, the first one in this list counts:");
        // A number beyond each range, where no number is allowed.
        dueFault("99999 0 0;", -2, 0);
        dueFault("ship 0 0 99999;", -2, 9);
        dueFault(SHIP + "99999;", -2, 9);
        dueFault(SHIP + "smooth 99999;", -2, 16);
        dueFault(SHIP + "yaw 1 99999;", -2, 15);
        dueFault(SHIP + "yaw (1)99999;", -2, 16);
        // A "-" ahead of a number beyond the range, where no sign is allowed.
        dueFault(SHIP + "course -99999;", -2, 16);
        // A 9th row or gust, where no statement is allowed.
        StringBuilder rows = new StringBuilder(SHIP);
        for (int i = 0; i < 8; i++) rows.append("row ").append(i).append(" 1 1 1;");
        String open = rows.substring(0, rows.length() - 1);
        dueFault(open + " row 8 1 1 1;", -2, rows.length());
        String gusts = SHIP + repeated("gust 0 0 1;", 8);
        dueFault(gusts.substring(0, gusts.length() - 1) + " gust 0 0 1;", -2, gusts.length());
        // A parenthesis inside 4 others, where none is allowed.
        dueFault(SHIP + "yaw ((((1(", -2, 18);
        dueFault(SHIP + "yaw ((((rate(1)))));", -2, 21);
        dueFault(SHIP + "yaw ((((1)(", -2, 19);
    }

    private static void notAllowed() {
        sentence("- SYNTAX_ERROR: a token or byte that the grammar does not allow here, at its first byte;");
        dueFault(SHIP + "smooth  @;", -2, 17);
        dueFault(SHIP + "  abcde;", -2, 11);
        dueFault(SHIP + "course  abcde;", -2, 17);
        dueFault(SHIP + "smooth  12345;", -2, 17);
        dueFault(SHIP + "  (1);", -2, 11);
        dueFault(SHIP + "yaw 1,5;", -2, 14);
        dueFault("\0" + SHIP, -2, 0);
        dueFault("\u00ff" + SHIP, -2, 0);
        for (String sign : new String[] {"(", ")", "+", "-", "*", "/", ";"}) {
            dueFault(sign, -2, 0);
            dueFault("ship " + sign, -2, 5);
            dueFault(SHIP + sign, -2, 9);
            dueFault(SHIP + "dead " + sign, -2, 14);
            if (!sign.equals(";")) dueFault(SHIP + "dead 1 " + sign, -2, 16);
        }
    }

    private static void endOfTheText() {
        sentence("the end of the text, at its length, if the text ends too early;");
        dueFault("", -2, 0);
        dueFault("  ", -2, 2);
        String[] open = {"ship", "ship ", "ship 0", "ship 0 ", "ship 0 0", "ship 0 0 ", SHIP + "course", SHIP + "course ", SHIP + "course 1",
            SHIP + "rudder", SHIP + "rudder 10", SHIP + "rudder 10 1", SHIP + "row", SHIP + "row 0", SHIP + "row 0 1", SHIP + "row 0 1 1 ",
            SHIP + "row 0 1 1 1", SHIP + "smooth", SHIP + "gust", SHIP + "gust 1", SHIP + "gust 1 2", SHIP + "gust 1 2 -",
            SHIP + "gust 1 2 - ", SHIP + "gust 1 2 -3", SHIP + "yaw", SHIP + "yaw ", SHIP + "yaw (", SHIP + "yaw (1", SHIP + "yaw (1+",
            SHIP + "yaw (1+2)", SHIP + "yaw (1+2)*", SHIP + "yaw ((((", SHIP + "yaw rate"};
        for (String text : open) dueFault(text, -2, text.length());
        for (String text : open) dueFault(text + "   ", -2, text.length() + 3);
        // What stands behind the text in the buffer does not belong to it.
        RudderSchedule x = new RudderSchedule();
        fill(x, "ship 0 0;smooth;");
        due("load(8)", -2, () -> x.load(8));
        due("errorOffset()", 8, x::errorOffset);
        fill(x, "ship 0 0;smooth;");
        due("load(12)", -2, () -> x.load(12));
        due("errorOffset()", 9, x::errorOffset);
        fill(x, "ship 0 0;course 12;");
        due("load(17)", -2, () -> x.load(17));
        due("errorOffset()", 17, x::errorOffset);
    }

    private static void secondStatements() {
        sentence("a second statement of a word that may occur once, at its first letter.");
        for (String once : ONCE) {
            String word = once.split(" ")[0];
            String text = SHIP + once + "; row 0 1 1 1;  ";
            dueFault(text + once + ";", -2, text.length());
            dueFault(text + word, -2, text.length());
            dueFault(text + word + " 99999999", -2, text.length());
        }
    }

    private static void outOfRange() {
        sentence("- OUT_OF_RANGE: a number outside its range, at its first digit (of a sign: at its \"-\", if it has one).");
        dueRange("ship ", " 0;", 0, 3599, 1);
        dueRange("ship 0 ", ";", 0, 400, 1);
        dueRange(SHIP + "course ", ";", 0, 3599, 1);
        dueRange(SHIP + "speed ", ";", 0, 400, 1);
        dueRange(SHIP + "rudder ", " 1;", 10, 450, 1);
        dueRange(SHIP + "rudder 10 ", ";", 1, 99, 1);
        dueRange(SHIP + "pull ", ";", 1, 50, 1);
        dueRange(SHIP + "band ", ";", 0, 900, 1);
        dueRange(SHIP + "dead ", ";", 0, 90, 1);
        dueRange(SHIP + "off ", ";", 1, 1800, 1);
        dueFault(SHIP + "gust 0 0 -100;", -3, 18);
        dueFault(SHIP + "gust 0 0  -  100;", -3, 19);
        dueFault(SHIP + "gust 0 0-100;", -3, 17);
        dueFault(SHIP + "gust 0 0 -00100;", -3, 18);
        dueFault(SHIP + "gust 0 0  100;", -3, 19);
        dueGood(SHIP + "gust 0 0 -99;", 1);
        dueGood(SHIP + "gust 0 0 -0099;", 1);
    }

    private static void tooMany() {
        sentence("- TOO_MANY: a 9th row or a 9th gust, at the first letter of its statement.");
        StringBuilder rows = new StringBuilder(SHIP);
        for (int i = 0; i < 8; i++) rows.append("row ").append(i).append(" 1 1 1;");
        dueGood(rows.toString(), 8);
        String gusts = SHIP + repeated("gust 0 0 1;", 8);
        dueGood(gusts, 1);
        for (String rest : new String[] {"", " ", ";", " 8", " 8 1 1 1", " 8 1 1 1;", " 0 1 1 1;", " x", "@"}) {
            dueFault(rows + "row" + rest, -4, rows.length());
            dueFault(rows + "   row" + rest, -4, rows.length() + 3);
            dueFault(gusts + "gust" + rest, -4, gusts.length());
            dueFault(gusts + "   gust" + rest, -4, gusts.length() + 3);
        }
        dueFault(rows + "rows 8 1 1 1;", -2, rows.length());
        dueGood(rows + repeated("gust 0 0 1;", 8), 8);
        dueFault(rows + repeated("gust 0 0 1;", 9), -4, rows.length() + 88);
        dueFault(gusts + rows.substring(SHIP.length()) + "row 8 1 1 1;", -4, gusts.length() + rows.length() - SHIP.length());
    }

    private static void tooDeep() {
        sentence("- TOO_DEEP: an opening parenthesis inside 4 others, at that parenthesis.");
        dueFault(SHIP + "yaw ((((( ", -5, 17);
        dueFault(SHIP + "yaw (((( (", -5, 18);
        dueFault(SHIP + "yaw ( ( ( ( (1", -5, 21);
        dueFault(SHIP + "yaw 1+(2*(3-(4/(5+(6)))));", -5, 27);
        dueFault(SHIP + "yaw (1+((((2", -5, 19);
        dueFault(SHIP + "yaw ((((1))))+(((((2", -5, 27);
        dueFault(SHIP + "yaw ((((1)+(2)", -2, 23);
        dueGood(SHIP + "yaw ((((1)+(2))));", 1);
        dueFault(SHIP + "yaw ((((1)+((2))));", -5, 21);
        dueGood(SHIP + "yaw (((1)+((2))));", 1);
    }
}
