import java.util.Arrays;

/** A course keeper for a ship; what it must do is told by ../shared/DOC.md. */
public final class RudderSchedule {
    public static final int SYNTAX_ERROR = -2;
    public static final int OUT_OF_RANGE = -3;
    public static final int TOO_MANY = -4;
    public static final int TOO_DEEP = -5;

    private static final int BUFFER_BYTES = 500;
    private static final int APPENDED_BYTES = 20;
    private static final int CHANGES_KEPT = 8;

    private static final int FULL_CIRCLE = 3600;
    private static final int MOST_SPEED = 400;
    private static final int MOST_RATE = 300;
    private static final int MOST_SUM = 20000;
    private static final int MOST_YAW = 1000000;
    private static final int MOST_FACTOR = 9999;
    private static final int LAST_GUST_TICK = 9999;
    private static final int LAST_WIND_TICK = 20000;
    private static final int MOST_STRENGTH = 99;
    private static final int CALM_RATE = 2;
    private static final int ALARM_TICKS = 5;
    private static final int SETTLED_TICKS = 5;
    private static final int MOST_FORETOLD_TICKS = 300;
    private static final int MOST_TUNED_TICKS = 100;
    private static final int MOST_PASSED_TICKS = 50;
    private static final int MOST_TUNED_GAIN = 400;
    private static final int TUNED_GAIN_STEP = 20;

    private static final int MOST_ROWS = 8;
    private static final int ROW_CELLS = 4;
    private static final int ROW_SPEED = 0;
    private static final int GAIN_P = 1;
    private static final int GAIN_I = 2;
    private static final int GAIN_D = 3;
    private static final int MOST_P = 999;
    private static final int MOST_I = 99;
    private static final int MOST_D = 999;

    private static final int MOST_GUSTS = 8;
    private static final int GUST_CELLS = 3;

    private static final int LAST_STATE = 16;
    private static final int LAST_FORETOLD = 6;

    // The kinds of tokens. A sign that is no digit or letter is of the kind of its byte, so these stand above all bytes.
    private static final int END = 256;
    private static final int NUMBER = 257;
    private static final int WORD = 258;
    private static final int SHIP = 259;
    // From COURSE to YAW are the words of the statements that may occur once.
    private static final int COURSE = 260;
    private static final int SPEED = 261;
    private static final int RUDDER = 262;
    private static final int PULL = 263;
    private static final int SMOOTH = 264;
    private static final int BAND = 265;
    private static final int DEAD = 266;
    private static final int OFF = 267;
    private static final int YAW = 268;
    private static final int ROW = 269;
    private static final int GUST = 270;
    private static final int RATE = 271;
    private static final int WIND = 272;

    // Any number from here on is out of every range, so that digits behind it need not be counted.
    private static final int HUGE_NUMBER = 1000000;

    private static final int MOST_PARENTHESES = 4;
    // Ahead of, and inside each of the 4 parentheses, a sum and a term can wait, and the parenthesis itself: 14.
    private static final int MOST_WAITING = 16;

    // A step is a number, or minus the kind of the token: operators stand behind their two operands.
    private static final int[] USUAL_YAW = {
        -RUDDER, -SPEED, -'*', 2000, -'/', -RATE, 3, -'/', -'-', -WIND, -'+'
    };

    private final byte[] buffer = new byte[BUFFER_BYTES];
    private int bufferLength = 0;
    private int latestErrorOffset = -1;
    private final Ship ship = new Ship();
    private final History history = new History();
    private final Forecast forecast = new Forecast();
    private final SetupReader reader = new SetupReader();

    public RudderSchedule() {
        ship.startAnew(0, 0);
        ship.addUsualRow();
    }

    public int append(int w0, int w1, int w2, int w3, int w4) {
        if (bufferLength > BUFFER_BYTES - APPENDED_BYTES) {
            return -1;
        }
        putWord(w0);
        putWord(w1);
        putWord(w2);
        putWord(w3);
        putWord(w4);
        return bufferLength;
    }

    public int load(int length) throws IllegalArgumentException {
        checkRange(length, 0, bufferLength);
        reader.readSetup(buffer, length);
        bufferLength = 0;
        latestErrorOffset = reader.failOffset;
        if (reader.failCode != 0) {
            return reader.failCode;
        }
        history.keep(ship);
        ship.copyFrom(reader.draft);
        return ship.schedule.count;
    }

    public int errorOffset() {
        return latestErrorOffset;
    }

    public int state(int what) throws IllegalArgumentException {
        checkRange(what, 0, LAST_STATE);
        return stateOf(what);
    }

    public int row(int row, int what) throws IndexOutOfBoundsException, IllegalArgumentException {
        checkRow(row);
        checkRange(what, ROW_SPEED, GAIN_D);
        return ship.schedule.cell(row, what);
    }

    public int gain(int speed, int what) throws IllegalArgumentException {
        checkRange(speed, 0, MOST_SPEED);
        checkRange(what, GAIN_P, GAIN_D);
        return ship.schedule.gainFor(speed, what);
    }

    public int wind(int tick) throws IllegalArgumentException {
        checkRange(tick, 0, LAST_WIND_TICK);
        return ship.gusts.strengthAt(tick);
    }

    public int error(int heading, int course) throws IllegalArgumentException {
        checkRange(heading, 0, FULL_CIRCLE - 1);
        checkRange(course, 0, FULL_CIRCLE - 1);
        return errorBetween(heading, course);
    }

    public int why() {
        return forecast.nextReason(ship);
    }

    public int wanted() {
        return forecast.nextWanted(ship);
    }

    public int foretold(int ticks, int what) throws IllegalArgumentException {
        checkRange(ticks, 1, MOST_FORETOLD_TICKS);
        checkRange(what, 0, LAST_FORETOLD);
        forecast.start(ship);
        forecast.run(ticks);
        return foretoldOf(what);
    }

    public int settles(int limit) throws IllegalArgumentException {
        checkRange(limit, SETTLED_TICKS, MOST_FORETOLD_TICKS);
        forecast.start(ship);
        forecast.run(limit);
        return forecast.settledBehind;
    }

    public int swings(int ticks) throws IllegalArgumentException {
        checkRange(ticks, 1, MOST_FORETOLD_TICKS);
        forecast.start(ship);
        forecast.run(ticks);
        return forecast.greatestSwing;
    }

    public int tunes(int row, int limit) throws IndexOutOfBoundsException, IllegalArgumentException {
        checkRow(row);
        checkRange(limit, SETTLED_TICKS, MOST_TUNED_TICKS);
        int best = 0;
        int soonest = 0;
        int leastSwing = 0;
        for (int p = 0; p <= MOST_TUNED_GAIN; p += TUNED_GAIN_STEP) {
            forecast.start(ship);
            forecast.trial.schedule.setCell(row, GAIN_P, p);
            forecast.run(limit);
            int settled = forecast.settledBehind < 0 ? limit + 1 : forecast.settledBehind;
            int swing = forecast.greatestSwing;
            if (p == 0 || settled < soonest || settled == soonest && swing < leastSwing) {
                best = p;
                soonest = settled;
                leastSwing = swing;
            }
        }
        return best;
    }

    public double meanWear() {
        if (ship.time == 0) {
            return 0.0;
        }
        return (double) ship.wear / (double) ship.time;
    }

    public int pass(int ticks) throws IllegalArgumentException {
        checkRange(ticks, 1, MOST_PASSED_TICKS);
        history.keep(ship);
        int alarmsBefore = ship.alarms;
        for (int i = 0; i < ticks; i++) {
            ship.tick();
        }
        return ship.alarms - alarmsBefore;
    }

    public int steer(int course) throws IllegalArgumentException {
        checkRange(course, 0, FULL_CIRCLE - 1);
        history.keep(ship);
        ship.course = course;
        return ship.presentError();
    }

    public int order(int speed) throws IllegalArgumentException {
        checkRange(speed, 0, MOST_SPEED);
        history.keep(ship);
        ship.orderedSpeed = speed;
        return ship.ticksToOrderedSpeed();
    }

    public int gust(int first, int last, int strength) throws IllegalArgumentException, IllegalStateException {
        checkRange(first, 0, LAST_GUST_TICK);
        checkRange(last, first, LAST_GUST_TICK);
        checkRange(strength, -MOST_STRENGTH, MOST_STRENGTH);
        if (ship.gusts.count >= MOST_GUSTS) {
            throw new IllegalStateException("there are 8 gusts");
        }
        history.keep(ship);
        ship.gusts.add(first, last, strength);
        return ship.gusts.strengthAt(ship.time);
    }

    public int gains(int row, int p, int i, int d) throws IndexOutOfBoundsException, IllegalArgumentException {
        checkRow(row);
        checkRange(p, 0, MOST_P);
        checkRange(i, 0, MOST_I);
        checkRange(d, 0, MOST_D);
        history.keep(ship);
        ship.schedule.setCell(row, GAIN_P, p);
        ship.schedule.setCell(row, GAIN_I, i);
        ship.schedule.setCell(row, GAIN_D, d);
        return ship.schedule.gainFor(ship.speed, GAIN_P);
    }

    public boolean smooth(boolean isSmooth) {
        history.keep(ship);
        boolean wasSmooth = ship.schedule.isSmooth;
        ship.schedule.isSmooth = isSmooth;
        return wasSmooth;
    }

    public int undo() {
        return history.takeBack(ship);
    }

    public long checksum() {
        long sum = 0;
        for (int what = 0; what <= LAST_STATE; what++) {
            sum = 31 * sum + stateOf(what);
        }
        for (int row = 0; row < ship.schedule.count; row++) {
            for (int what = 0; what < ROW_CELLS; what++) {
                sum = 31 * sum + ship.schedule.cell(row, what);
            }
        }
        sum = 31 * sum + forecast.nextWanted(ship);
        sum = 31 * sum + forecast.nextReason(ship);
        if (ship.time <= LAST_WIND_TICK) {
            sum = 31 * sum + ship.gusts.strengthAt(ship.time);
        }
        return sum;
    }

    private static void checkRange(int value, int low, int high) throws IllegalArgumentException {
        if (value < low || value > high) {
            throw new IllegalArgumentException("out of range");
        }
    }

    private void checkRow(int row) throws IndexOutOfBoundsException {
        if (row < 0 || row >= ship.schedule.count) {
            throw new IndexOutOfBoundsException("no such row");
        }
    }

    private void putWord(int word) {
        for (int shift = 24; shift >= 0; shift -= 8) {
            if (bufferLength >= 0 && bufferLength < buffer.length) {
                buffer[bufferLength] = (byte) (word >> shift);
                bufferLength++;
            }
        }
    }

    private int stateOf(int what) {
        switch (what) {
            case 0: return ship.time;
            case 1: return ship.heading;
            case 2: return ship.rate;
            case 3: return ship.rudder;
            case 4: return ship.speed;
            case 5: return ship.course;
            case 6: return ship.orderedSpeed;
            case 7: return ship.presentError();
            case 8: return ship.errorSum;
            case 9: return ship.wear;
            case 10: return ship.ticksOff;
            case 11: return ship.alarms;
            case 12: return ship.latestAlarm;
            case 13: return ship.schedule.count;
            case 14: return ship.gusts.count;
            case 15: return ship.schedule.isSmooth ? 1 : 0;
            default: return ship.schedule.rowFor(ship.speed);
        }
    }

    private int foretoldOf(int what) {
        switch (what) {
            case 0: return forecast.trial.heading;
            case 1: return forecast.trial.rate;
            case 2: return forecast.trial.rudder;
            case 3: return forecast.trial.speed;
            case 4: return forecast.trial.wear - ship.wear;
            case 5: return forecast.trial.alarms - ship.alarms;
            default: return forecast.greatestError;
        }
    }

    private static int limited(long value, int low, int high) {
        if (value < low) {
            return low;
        }
        return value > high ? high : (int) value;
    }

    /** What is reached from a number on the way to an aim, if it moves by at most so much. */
    private static int nearer(int from, int aim, int most) {
        return from + limited((long) aim - from, -most, most);
    }

    private static int errorBetween(int heading, int course) {
        int turn = course - heading;
        if (turn < -1799) {
            return turn + FULL_CIRCLE;
        }
        return turn > 1800 ? turn - FULL_CIRCLE : turn;
    }

    private static void copyCells(int[] from, int[] to) {
        if (from == null || to == null) {
            return;
        }
        for (int i = 0; i < from.length && i < to.length; i++) {
            to[i] = from[i];
        }
    }

    /** What a setup alone decides of the rudder, the engine and the bounds of errors. */
    private static final class Helm {
        private int limit = 0;
        private int rudderRate = 0;
        private int pull = 0;
        private int band = 0;
        private int dead = 0;
        private int off = 0;

        void startAnew() {
            limit = 350;
            rudderRate = 30;
            pull = 5;
            band = 100;
            dead = 5;
            off = 300;
        }

        void copyFrom(Helm other) {
            if (other == null) {
                return;
            }
            limit = other.limit;
            rudderRate = other.rudderRate;
            pull = other.pull;
            band = other.band;
            dead = other.dead;
            off = other.off;
        }
    }

    /** The rows of gains, by rising speeds. */
    private static final class Schedule {
        private final int[] cells = new int[MOST_ROWS * ROW_CELLS];
        private int count = 0;
        private boolean isSmooth = false;

        void clear() {
            count = 0;
            isSmooth = false;
        }

        void add(int speed, int p, int i, int d) {
            if (count >= MOST_ROWS) {
                return;
            }
            setCell(count, ROW_SPEED, speed);
            setCell(count, GAIN_P, p);
            setCell(count, GAIN_I, i);
            setCell(count, GAIN_D, d);
            count++;
        }

        int cell(int row, int what) {
            int index = row * ROW_CELLS + what;
            return index >= 0 && index < cells.length ? cells[index] : 0;
        }

        void setCell(int row, int what, int value) {
            int index = row * ROW_CELLS + what;
            if (index >= 0 && index < cells.length) {
                cells[index] = value;
            }
        }

        int rowFor(int speed) {
            int found = 0;
            for (int row = 1; row < count; row++) {
                if (cell(row, ROW_SPEED) <= speed) {
                    found = row;
                }
            }
            return found;
        }

        int gainFor(int speed, int what) {
            int row = rowFor(speed);
            int gain = cell(row, what);
            int way = cell(row + 1, ROW_SPEED) - cell(row, ROW_SPEED);
            if (!isSmooth || row + 1 >= count || way <= 0) {
                return gain;
            }
            return gain + (cell(row + 1, what) - gain) * (speed - cell(row, ROW_SPEED)) / way;
        }

        void copyFrom(Schedule other) {
            if (other == null) {
                return;
            }
            copyCells(other.cells, cells);
            count = other.count;
            isSmooth = other.isSmooth;
        }
    }

    private static final class Gusts {
        private final int[] cells = new int[MOST_GUSTS * GUST_CELLS];
        private int count = 0;

        void clear() {
            count = 0;
        }

        void add(int first, int last, int strength) {
            int index = count * GUST_CELLS;
            if (index < 0 || index + 2 >= cells.length) {
                return;
            }
            cells[index] = first;
            cells[index + 1] = last;
            cells[index + 2] = strength;
            count++;
        }

        int strengthAt(int tick) {
            int sum = 0;
            for (int i = 0; i < count && i * GUST_CELLS + 2 < cells.length; i++) {
                int index = i * GUST_CELLS;
                if (cells[index] <= tick && tick <= cells[index + 1]) {
                    sum += cells[index + 2];
                }
            }
            return sum;
        }

        void copyFrom(Gusts other) {
            if (other == null) {
                return;
            }
            copyCells(other.cells, cells);
            count = other.count;
        }
    }

    /** The yaw's expression; its steps are never changed once they stand, so copies share them. */
    private static final class Yaw {
        private int[] steps = USUAL_YAW;
        private final int[] values = new int[MOST_WAITING];

        void startAnew() {
            steps = USUAL_YAW;
        }

        int valueFor(int rudder, int speed, int rate, int wind) {
            if (steps == null) {
                return 0;
            }
            int count = 0;
            for (int i = 0; i < steps.length; i++) {
                int step = steps[i];
                if (isOperator(-step)) {
                    count--;
                    if (count >= 1 && count < values.length) {
                        values[count - 1] = result(-step, values[count - 1], values[count]);
                    }
                } else if (count >= 0 && count < values.length) {
                    values[count] = operand(step, rudder, speed, rate, wind);
                    count++;
                }
            }
            return values.length > 0 ? values[0] : 0;
        }

        private static boolean isOperator(int kind) {
            return kind == '+' || kind == '-' || kind == '*' || kind == '/';
        }

        private static int operand(int step, int rudder, int speed, int rate, int wind) {
            switch (-step) {
                case RUDDER: return rudder;
                case SPEED: return speed;
                case RATE: return rate;
                case WIND: return wind;
                default: return step;
            }
        }

        private static int result(int operator, int left, int right) {
            long value;
            if (operator == '+') {
                value = (long) left + right;
            } else if (operator == '-') {
                value = (long) left - right;
            } else if (operator == '*') {
                value = (long) left * right;
            } else {
                value = right == 0 ? 0 : left / right;
            }
            return limited(value, -MOST_YAW, MOST_YAW);
        }

        void copyFrom(Yaw other) {
            if (other == null) {
                return;
            }
            steps = other.steps;
        }
    }

    /** All data that a change can change and undo brings back. */
    private static final class Ship {
        private int time = 0;
        private int heading = 0;
        private int rate = 0;
        private int rudder = 0;
        private int speed = 0;
        private int course = 0;
        private int orderedSpeed = 0;
        private int errorSum = 0;
        private int wear = 0;
        private int ticksOff = 0;
        private int alarms = 0;
        private int latestAlarm = -1;
        private final Helm helm = new Helm();
        private final Schedule schedule = new Schedule();
        private final Gusts gusts = new Gusts();
        private final Yaw yaw = new Yaw();

        /** As by a setup without statements, but for the rows: the first row statement is to find none. */
        void startAnew(int firstHeading, int firstSpeed) {
            time = 0;
            heading = firstHeading;
            rate = 0;
            rudder = 0;
            speed = firstSpeed;
            course = firstHeading;
            orderedSpeed = firstSpeed;
            errorSum = 0;
            wear = 0;
            ticksOff = 0;
            alarms = 0;
            latestAlarm = -1;
            helm.startAnew();
            schedule.clear();
            gusts.clear();
            yaw.startAnew();
        }

        void addUsualRow() {
            if (schedule.count == 0) {
                schedule.add(0, 100, 0, 200);
            }
        }

        void copyFrom(Ship other) {
            if (other == null) {
                return;
            }
            time = other.time;
            heading = other.heading;
            rate = other.rate;
            rudder = other.rudder;
            speed = other.speed;
            course = other.course;
            orderedSpeed = other.orderedSpeed;
            errorSum = other.errorSum;
            wear = other.wear;
            ticksOff = other.ticksOff;
            alarms = other.alarms;
            latestAlarm = other.latestAlarm;
            helm.copyFrom(other.helm);
            schedule.copyFrom(other.schedule);
            gusts.copyFrom(other.gusts);
            yaw.copyFrom(other.yaw);
        }

        int presentError() {
            return errorBetween(heading, course);
        }

        boolean isOnCourse() {
            return Math.abs(presentError()) <= helm.dead;
        }

        int ticksToOrderedSpeed() {
            return helm.pull <= 0 ? 0 : (Math.abs(orderedSpeed - speed) + helm.pull - 1) / helm.pull;
        }

        void tick() {
            int error = takeError();
            moveRudder(wantedRudder(error));
            turn();
            watch(error);
            time++;
        }

        /** (1) and (2) of a tick; returns the error that was taken. */
        int takeError() {
            speed = nearer(speed, orderedSpeed, helm.pull);
            int error = presentError();
            boolean isInBand = Math.abs(error) <= helm.band;
            errorSum = isInBand ? limited((long) errorSum + error, -MOST_SUM, MOST_SUM) : 0;
            return error;
        }

        boolean isCalm(int error) {
            return Math.abs(error) <= helm.dead && Math.abs(rate) <= CALM_RATE;
        }

        int wantedRudder(int error) {
            if (isCalm(error)) {
                return 0;
            }
            int p = schedule.gainFor(speed, GAIN_P);
            int i = schedule.gainFor(speed, GAIN_I);
            int d = schedule.gainFor(speed, GAIN_D);
            return (p * error + i * errorSum / 10 - d * rate) / 100;
        }

        /** Why the rudder will be as it will be; (1) and (2) of the tick are behind. */
        int reasonFor(int error) {
            if (isCalm(error)) {
                return 1;
            }
            int wantedAngle = wantedRudder(error);
            if (Math.abs(wantedAngle) > helm.limit) {
                return 2;
            }
            return Math.abs(wantedAngle - rudder) > helm.rudderRate ? 3 : 0;
        }

        private void moveRudder(int wantedAngle) {
            int before = rudder;
            rudder = nearer(rudder, limited(wantedAngle, -helm.limit, helm.limit), helm.rudderRate);
            wear += Math.abs(rudder - before);
        }

        private void turn() {
            int change = yaw.valueFor(rudder, speed, rate, gusts.strengthAt(time));
            rate = limited((long) rate + change, -MOST_RATE, MOST_RATE);
            heading = Math.floorMod(heading + rate, FULL_CIRCLE);
        }

        private void watch(int error) {
            ticksOff = Math.abs(error) > helm.off ? ticksOff + 1 : 0;
            if (ticksOff == ALARM_TICKS) {
                alarms++;
                latestAlarm = time;
            }
        }
    }

    /** The ship as it was ahead of each change that can be undone, in a ring. */
    private static final class History {
        private final Ship[] earlier = new Ship[CHANGES_KEPT];
        private int next = 0;
        private int kept = 0;

        History() {
            for (int i = 0; i < earlier.length; i++) {
                earlier[i] = new Ship();
            }
        }

        void keep(Ship ship) {
            if (next < 0 || next >= earlier.length || earlier[next] == null) {
                return;
            }
            earlier[next].copyFrom(ship);
            next = (next + 1) % CHANGES_KEPT;
            kept = kept < CHANGES_KEPT ? kept + 1 : CHANGES_KEPT;
        }

        /** Returns how many changes can be undone then; -1 if there was none. */
        int takeBack(Ship ship) {
            if (kept <= 0 || ship == null) {
                return -1;
            }
            next = (next + CHANGES_KEPT - 1) % CHANGES_KEPT;
            kept--;
            if (next >= 0 && next < earlier.length) {
                ship.copyFrom(earlier[next]);
            }
            return kept;
        }
    }

    /** Lets ticks pass on a copy of the ship, and keeps what is asked of them. */
    private static final class Forecast {
        private final Ship trial = new Ship();
        private int greatestError = 0;
        private int greatestSwing = 0;
        private int settledBehind = -1;

        void start(Ship ship) {
            trial.copyFrom(ship);
        }

        void run(int ticks) {
            int errorNow = trial.presentError();
            int ticksOn = 0;
            greatestError = 0;
            greatestSwing = 0;
            settledBehind = -1;
            for (int i = 1; i <= ticks; i++) {
                trial.tick();
                int error = trial.presentError();
                greatestError = Math.max(greatestError, Math.abs(error));
                if (errorNow > 0 && error < 0 || errorNow < 0 && error > 0) {
                    greatestSwing = Math.max(greatestSwing, Math.abs(error));
                }
                ticksOn = trial.isOnCourse() ? ticksOn + 1 : 0;
                if (ticksOn >= SETTLED_TICKS && settledBehind < 0) {
                    settledBehind = i;
                }
            }
        }

        int nextWanted(Ship ship) {
            start(ship);
            return trial.wantedRudder(trial.takeError());
        }

        int nextReason(Ship ship) {
            start(ship);
            return trial.reasonFor(trial.takeError());
        }
    }

    /** The tokens of a setup text; all of it is cut into them before the first one is looked at. */
    private static final class Tokens {
        private final int[] kinds = new int[BUFFER_BYTES + 1];
        private final int[] values = new int[BUFFER_BYTES + 1];
        private final int[] starts = new int[BUFFER_BYTES + 1];
        private int count = 0;
        private int next = 0;
        private int kind = END;
        /** Of a number it itself, of a word its length. */
        private int value = 0;
        private int start = 0;

        void cut(byte[] text, int length) {
            count = 0;
            next = 0;
            if (text == null) {
                return;
            }
            int before = ' ';
            for (int at = 0; at < length && at < text.length; at++) {
                int sign = text[at] & 255;
                if (isDigit(sign)) {
                    extend(NUMBER, isDigit(before), at, sign - '0');
                } else if (isLetter(sign)) {
                    extend(WORD, isLetter(before), at, 1);
                } else if (sign != ' ') {
                    put(sign, at);
                }
                before = sign;
            }
            put(END, length);
            nameWords(text);
        }

        void advance() {
            if (next >= 0 && next < count && next < kinds.length && next < values.length && next < starts.length) {
                kind = kinds[next];
                value = values[next];
                start = starts[next];
                next++;
            }
        }

        private static boolean isDigit(int sign) {
            return sign >= '0' && sign <= '9';
        }

        private static boolean isLetter(int sign) {
            return sign >= 'a' && sign <= 'z';
        }

        private void put(int newKind, int at) {
            if (count >= 0 && count < kinds.length && count < values.length && count < starts.length) {
                kinds[count] = newKind;
                values[count] = 0;
                starts[count] = at;
                count++;
            }
        }

        private void extend(int runKind, boolean isRunning, int at, int more) {
            if (!isRunning) {
                put(runKind, at);
            }
            int latest = count - 1;
            if (latest >= 0 && latest < values.length) {
                int longer = values[latest] * (runKind == NUMBER ? 10 : 1) + more;
                values[latest] = Math.min(longer, HUGE_NUMBER);
            }
        }

        private void nameWords(byte[] text) {
            for (int i = 0; i < count && i < kinds.length && i < values.length && i < starts.length; i++) {
                if (kinds[i] == WORD) {
                    kinds[i] = wordKind(text, starts[i], values[i]);
                }
            }
        }

        private static int wordKind(byte[] text, int at, int length) {
            if (spells(text, at, length, "ship")) return SHIP;
            if (spells(text, at, length, "course")) return COURSE;
            if (spells(text, at, length, "speed")) return SPEED;
            if (spells(text, at, length, "rudder")) return RUDDER;
            if (spells(text, at, length, "pull")) return PULL;
            if (spells(text, at, length, "row")) return ROW;
            if (spells(text, at, length, "smooth")) return SMOOTH;
            if (spells(text, at, length, "band")) return BAND;
            if (spells(text, at, length, "dead")) return DEAD;
            if (spells(text, at, length, "off")) return OFF;
            if (spells(text, at, length, "gust")) return GUST;
            if (spells(text, at, length, "yaw")) return YAW;
            if (spells(text, at, length, "rate")) return RATE;
            if (spells(text, at, length, "wind")) return WIND;
            return WORD;
        }

        private static boolean spells(byte[] text, int at, int length, String word) {
            if (text == null || word == null || length != word.length() || at < 0 || at + length > text.length) {
                return false;
            }
            for (int i = 0; i < length; i++) {
                if (text[at + i] != word.charAt(i)) {
                    return false;
                }
            }
            return true;
        }
    }

    /** Puts the operators of a sum behind their operands, so that the yaw is computed without recursion. */
    private static final class YawBuilder {
        private final int[] steps = new int[BUFFER_BYTES];
        private int count = 0;
        private final int[] waiting = new int[MOST_WAITING];
        private int waitingCount = 0;
        private int depth = 0;

        void startAnew() {
            count = 0;
            waitingCount = 0;
            depth = 0;
        }

        void putStep(int step) {
            if (count >= 0 && count < steps.length) {
                steps[count] = step;
                count++;
            }
        }

        void putOperator(int operator) {
            releaseFrom(rank(operator));
            putWaiting(operator);
        }

        void open() {
            depth++;
            putWaiting('(');
        }

        void close() {
            depth--;
            releaseFrom(1);
            // The opening parenthesis is what stopped the release.
            waitingCount = Math.max(waitingCount - 1, 0);
        }

        int[] finished() {
            releaseFrom(1);
            return Arrays.copyOf(steps, limited(count, 0, steps.length));
        }

        private static int rank(int operator) {
            if (operator == '(') {
                return 0;
            }
            return operator == '+' || operator == '-' ? 1 : 2;
        }

        private void putWaiting(int operator) {
            if (waitingCount >= 0 && waitingCount < waiting.length) {
                waiting[waitingCount] = operator;
                waitingCount++;
            }
        }

        private void releaseFrom(int least) {
            for (int i = waitingCount - 1; i >= 0 && i < waiting.length; i--) {
                if (rank(waiting[i]) < least) {
                    return;
                }
                putStep(-waiting[i]);
                waitingCount = i;
            }
        }
    }

    /** Reads a setup text into a draft. Once an error is found, later ones are not told: their offsets are greater. */
    private static final class SetupReader {
        private final Ship draft = new Ship();
        private final Tokens tokens = new Tokens();
        private final YawBuilder builder = new YawBuilder();
        private int seenWords = 0;
        private int failCode = 0;
        private int failOffset = -1;

        void readSetup(byte[] text, int length) {
            seenWords = 0;
            failCode = 0;
            failOffset = -1;
            tokens.cut(text, length);
            tokens.advance();
            readShip();
            // A statement takes a byte at least.
            for (int left = length; left > 0 && failCode == 0 && tokens.kind != END; left--) {
                readStatement();
            }
            draft.addUsualRow();
        }

        private void fail(int code, int offset) {
            if (failCode == 0) {
                failCode = code;
                failOffset = offset;
            }
        }

        private void readKind(int kind) {
            if (tokens.kind != kind) {
                fail(SYNTAX_ERROR, tokens.start);
            }
            tokens.advance();
        }

        private int readNumber(int low, int high) {
            int number = tokens.value;
            if (tokens.kind != NUMBER) {
                fail(SYNTAX_ERROR, tokens.start);
            } else if (number < low || number > high) {
                fail(OUT_OF_RANGE, tokens.start);
            }
            tokens.advance();
            return number;
        }

        private int readSigned(int most) {
            int start = tokens.start;
            boolean isNegative = tokens.kind == '-';
            if (isNegative) {
                tokens.advance();
            }
            if (tokens.kind == NUMBER && tokens.value > most) {
                fail(OUT_OF_RANGE, start);
            }
            int number = readNumber(0, most);
            return isNegative ? -number : number;
        }

        private void readShip() {
            readKind(SHIP);
            int heading = readNumber(0, FULL_CIRCLE - 1);
            int speed = readNumber(0, MOST_SPEED);
            readKind(';');
            draft.startAnew(heading, speed);
        }

        private void readStatement() {
            int word = tokens.kind;
            int start = tokens.start;
            noteOnce(word, start);
            tokens.advance();
            switch (word) {
                case COURSE: draft.course = readNumber(0, FULL_CIRCLE - 1); break;
                case SPEED: draft.orderedSpeed = readNumber(0, MOST_SPEED); break;
                case RUDDER:
                    draft.helm.limit = readNumber(10, 450);
                    draft.helm.rudderRate = readNumber(1, 99);
                    break;
                case PULL: draft.helm.pull = readNumber(1, 50); break;
                case ROW: readRow(start); break;
                case SMOOTH: draft.schedule.isSmooth = true; break;
                case BAND: draft.helm.band = readNumber(0, 900); break;
                case DEAD: draft.helm.dead = readNumber(0, 90); break;
                case OFF: draft.helm.off = readNumber(1, 1800); break;
                case GUST: readGust(start); break;
                case YAW: readYaw(); break;
                default: fail(SYNTAX_ERROR, start);
            }
            readKind(';');
        }

        private void noteOnce(int word, int start) {
            if (word < COURSE || word > YAW) {
                return;
            }
            int bit = 1 << (word - COURSE);
            if ((seenWords & bit) != 0) {
                fail(SYNTAX_ERROR, start);
            }
            seenWords |= bit;
        }

        private void readRow(int start) {
            int count = draft.schedule.count;
            if (count >= MOST_ROWS) {
                fail(TOO_MANY, start);
            }
            int least = count == 0 ? 0 : draft.schedule.cell(count - 1, ROW_SPEED) + 1;
            int speed = readNumber(least, count == 0 ? 0 : MOST_SPEED);
            int p = readNumber(0, MOST_P);
            int i = readNumber(0, MOST_I);
            int d = readNumber(0, MOST_D);
            draft.schedule.add(speed, p, i, d);
        }

        private void readGust(int start) {
            if (draft.gusts.count >= MOST_GUSTS) {
                fail(TOO_MANY, start);
            }
            int first = readNumber(0, LAST_GUST_TICK);
            int last = readNumber(first, LAST_GUST_TICK);
            int strength = readSigned(MOST_STRENGTH);
            draft.gusts.add(first, last, strength);
        }

        private void readYaw() {
            builder.startAnew();
            boolean isFactorDue = true;
            boolean isEnded = false;
            // Each round takes a token, but for the last one.
            for (int left = BUFFER_BYTES; left > 0 && !isEnded && failCode == 0; left--) {
                if (isFactorDue) {
                    isFactorDue = tokens.kind == '(';
                    readFactor();
                } else if (Yaw.isOperator(tokens.kind)) {
                    builder.putOperator(tokens.kind);
                    tokens.advance();
                    isFactorDue = true;
                } else if (tokens.kind == ')' && builder.depth > 0) {
                    builder.close();
                    tokens.advance();
                } else {
                    isEnded = true;
                }
            }
            if (builder.depth > 0) {
                fail(SYNTAX_ERROR, tokens.start);
            }
            if (failCode == 0) {
                draft.yaw.steps = builder.finished();
            }
        }

        private void readFactor() {
            int kind = tokens.kind;
            if (kind == NUMBER) {
                builder.putStep(readNumber(0, MOST_FACTOR));
                return;
            }
            if (kind == '(') {
                if (builder.depth >= MOST_PARENTHESES) {
                    fail(TOO_DEEP, tokens.start);
                }
                builder.open();
            } else if (kind == RUDDER || kind == SPEED || kind == RATE || kind == WIND) {
                builder.putStep(-kind);
            } else {
                fail(SYNTAX_ERROR, tokens.start);
            }
            tokens.advance();
        }
    }
}
