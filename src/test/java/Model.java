import java.util.ArrayDeque;
import java.util.ArrayList;
import java.util.Arrays;
import java.util.Deque;
import java.util.HashSet;
import java.util.List;
import java.util.Set;

/**
 * The document once more, written for plainness alone and apart from the class: expressions are trees, every change
 * copies all data, forecasts are made anew for each question. RandomRunsTest holds the class against it.
 */
public final class Model {
    interface Sum {
        long value(Data at);
    }

    static final class Fault extends RuntimeException {
        private static final long serialVersionUID = 1L;
        final int code;
        final int offset;

        Fault(int code, int offset) {
            this.code = code;
            this.offset = offset;
        }
    }

    static final class Data {
        int time, heading, rate, rudder, speed, course, ordered, sum, wear, off, alarms, alarmTick = -1;
        int limit = 350, rudderRate = 30, pull = 5, band = 100, dead = 5, offBound = 300;
        boolean smooth;
        List<int[]> rows = new ArrayList<>();
        List<int[]> gusts = new ArrayList<>();
        Sum yaw = at -> clamp(clamp(clamp((long) at.rudder * at.speed, 1000000) / 2000 - at.rate / 3, 1000000)
            + at.windAt(at.time), 1000000);

        Data copy() {
            Data c = new Data();
            c.time = time;
            c.heading = heading;
            c.rate = rate;
            c.rudder = rudder;
            c.speed = speed;
            c.course = course;
            c.ordered = ordered;
            c.sum = sum;
            c.wear = wear;
            c.off = off;
            c.alarms = alarms;
            c.alarmTick = alarmTick;
            c.limit = limit;
            c.rudderRate = rudderRate;
            c.pull = pull;
            c.band = band;
            c.dead = dead;
            c.offBound = offBound;
            c.smooth = smooth;
            for (int[] row : rows) c.rows.add(row.clone());
            for (int[] gust : gusts) c.gusts.add(gust.clone());
            c.yaw = yaw;
            return c;
        }

        int windAt(int tick) {
            return gusts.stream().filter(g -> g[0] <= tick && tick <= g[1]).mapToInt(g -> g[2]).sum();
        }

        int errorNow() {
            return Model.errorOf(heading, course);
        }

        int rowInUse(int atSpeed) {
            int i = rows.size() - 1;
            while (rows.get(i)[0] > atSpeed) i--;
            return i;
        }

        int gainAt(int atSpeed, int what) {
            int i = rowInUse(atSpeed);
            int[] row = rows.get(i);
            if (!smooth || i == rows.size() - 1) return row[what];
            int[] next = rows.get(i + 1);
            return row[what] + (next[what] - row[what]) * (atSpeed - row[0]) / (next[0] - row[0]);
        }

        /** (1) and (2); the answer is {error, wanted rudder, 1 if it is 0 as all is small}. */
        int[] begin() {
            if (speed < ordered) speed = Math.min(speed + pull, ordered);
            else speed = Math.max(speed - pull, ordered);
            int e = errorNow();
            sum = e < -band || e > band ? 0 : (int) clamp(sum + e, 20000);
            boolean small = e >= -dead && e <= dead && rate >= -2 && rate <= 2;
            int wanted = (gainAt(speed, 1) * e + gainAt(speed, 2) * sum / 10 - gainAt(speed, 3) * rate) / 100;
            return new int[] {e, small ? 0 : wanted, small ? 1 : 0};
        }

        void tick() {
            int[] begun = begin();
            int aim = (int) clamp(begun[1], limit);
            int was = rudder;
            rudder = aim > rudder ? Math.min(aim, rudder + rudderRate) : Math.max(aim, rudder - rudderRate);
            wear += rudder > was ? rudder - was : was - rudder;
            rate = (int) clamp(rate + yaw.value(this), 300);
            heading = ((heading + rate) % 3600 + 3600) % 3600;
            if (begun[0] < -offBound || begun[0] > offBound) off++;
            else off = 0;
            if (off == 5) {
                alarms++;
                alarmTick = time;
            }
            time++;
        }
    }

    static long clamp(long value, long bound) {
        return value < -bound ? -bound : value > bound ? bound : value;
    }

    static int errorOf(int heading, int course) {
        int e = course - heading;
        if (e < -1799) e += 3600;
        else if (e > 1800) e -= 3600;
        return e;
    }

    /** Reads the text from the left to the right; the first fault ends it. */
    static final class Reader {
        final byte[] text;
        final int end;
        int at = 0;
        final Set<String> words = new HashSet<>();
        final Data data = new Data();

        Reader(byte[] text, int end) {
            this.text = text;
            this.end = end;
        }

        char peek() {
            while (at < end && text[at] == 32) at++;
            return at < end ? (char) (text[at] & 255) : '\0';
        }

        boolean atEnd() {
            peek();
            return at == end;
        }

        Fault syntax() {
            peek();
            return new Fault(-2, at);
        }

        String peekWord() {
            peek();
            int i = at;
            while (i < end && text[i] >= 'a' && text[i] <= 'z') i++;
            return new String(text, at, i - at, java.nio.charset.StandardCharsets.ISO_8859_1);
        }

        void sign(char c) {
            if (atEnd() || peek() != c) throw syntax();
            at++;
        }

        int number(int low, int high) {
            return number(low, high, -1);
        }

        int number(int low, int high, int faultAt) {
            if (!Character.isDigit(peek()) || peek() > '9') throw syntax();
            int start = at;
            while (at < end && text[at] >= '0' && text[at] <= '9') at++;
            java.math.BigInteger n = new java.math.BigInteger(new String(text, start, at - start));
            if (n.compareTo(java.math.BigInteger.valueOf(low)) < 0 || n.compareTo(java.math.BigInteger.valueOf(high)) > 0) {
                throw new Fault(-3, faultAt >= 0 ? faultAt : start);
            }
            return n.intValue();
        }

        Data setup() {
            if (!peekWord().equals("ship")) throw syntax();
            at += 4;
            data.heading = data.course = number(0, 3599);
            data.speed = data.ordered = number(0, 400);
            sign(';');
            while (!atEnd()) {
                statement();
                sign(';');
            }
            if (data.rows.isEmpty()) data.rows.add(new int[] {0, 100, 0, 200});
            return data;
        }

        void statement() {
            String word = peekWord();
            int start = at;
            if (!List.of("row", "gust").contains(word) && !words.add(word)) throw syntax();
            at += word.length();
            switch (word) {
                case "course" -> data.course = number(0, 3599);
                case "speed" -> data.ordered = number(0, 400);
                case "rudder" -> {
                    data.limit = number(10, 450);
                    data.rudderRate = number(1, 99);
                }
                case "pull" -> data.pull = number(1, 50);
                case "row" -> {
                    if (data.rows.size() == 8) throw new Fault(-4, start);
                    int n = data.rows.size();
                    int speed = n == 0 ? number(0, 0) : number(data.rows.get(n - 1)[0] + 1, 400);
                    data.rows.add(new int[] {speed, number(0, 999), number(0, 99), number(0, 999)});
                }
                case "smooth" -> data.smooth = true;
                case "band" -> data.band = number(0, 900);
                case "dead" -> data.dead = number(0, 90);
                case "off" -> data.offBound = number(1, 1800);
                case "gust" -> {
                    if (data.gusts.size() == 8) throw new Fault(-4, start);
                    int first = number(0, 9999);
                    int last = number(first, 9999);
                    int strength;
                    if (peek() == '-') {
                        int minus = at++;
                        strength = -number(0, 99, minus);
                    } else {
                        strength = number(0, 99);
                    }
                    data.gusts.add(new int[] {first, last, strength});
                }
                case "yaw" -> data.yaw = sum(0);
                default -> throw new Fault(-2, start);
            }
        }

        Sum sum(int depth) {
            Sum left = term(depth);
            while (peek() == '+' || peek() == '-') {
                int way = peek() == '+' ? 1 : -1;
                at++;
                Sum l = left;
                Sum r = term(depth);
                left = data -> clamp(l.value(data) + way * r.value(data), 1000000);
            }
            return left;
        }

        Sum term(int depth) {
            Sum left = factor(depth);
            while (peek() == '*' || peek() == '/') {
                boolean times = peek() == '*';
                at++;
                Sum l = left;
                Sum r = factor(depth);
                left = times ? data -> clamp(l.value(data) * r.value(data), 1000000)
                    : data -> r.value(data) == 0 ? 0 : clamp(l.value(data) / r.value(data), 1000000);
            }
            return left;
        }

        Sum factor(int depth) {
            if (peek() == '(') {
                if (depth == 4) throw new Fault(-5, at);
                at++;
                Sum inner = sum(depth + 1);
                sign(')');
                return inner;
            }
            String word = peekWord();
            if (word.isEmpty()) {
                int n = number(0, 9999);
                return data -> n;
            }
            Sum found = switch (word) {
                case "rudder" -> data -> data.rudder;
                case "speed" -> data -> data.speed;
                case "rate" -> data -> data.rate;
                case "wind" -> data -> data.windAt(data.time);
                default -> throw syntax();
            };
            at += word.length();
            return found;
        }
    }

    private Data now;
    private final Deque<Data> before = new ArrayDeque<>();
    private byte[] buffer = new byte[0];
    private int offset = -1;

    public Model() {
        byte[] text = "ship 0 0;".getBytes();
        now = new Reader(text, text.length).setup();
    }

    private static void need(boolean isMet) {
        if (!isMet) throw new IllegalArgumentException();
    }

    private void needRow(int row) {
        if (row < 0 || row > now.rows.size() - 1) throw new IndexOutOfBoundsException();
    }

    private void change() {
        before.push(now.copy());
        if (before.size() > 8) before.removeLast();
    }

    public int append(int w0, int w1, int w2, int w3, int w4) {
        if (buffer.length + 20 > 500) return -1;
        java.nio.ByteBuffer b = java.nio.ByteBuffer.allocate(buffer.length + 20);
        b.put(buffer).putInt(w0).putInt(w1).putInt(w2).putInt(w3).putInt(w4);
        buffer = b.array();
        return buffer.length;
    }

    public int load(int length) {
        need(length >= 0 && length <= buffer.length);
        byte[] text = Arrays.copyOf(buffer, length);
        buffer = new byte[0];
        try {
            Data read = new Reader(text, length).setup();
            change();
            now = read;
            offset = -1;
            return now.rows.size();
        } catch (Fault fault) {
            offset = fault.offset;
            return fault.code;
        }
    }

    public int errorOffset() {
        return offset;
    }

    public int state(int what) {
        need(what >= 0 && what <= 16);
        return new int[] {now.time, now.heading, now.rate, now.rudder, now.speed, now.course, now.ordered,
            now.errorNow(), now.sum, now.wear, now.off, now.alarms, now.alarmTick, now.rows.size(), now.gusts.size(),
            now.smooth ? 1 : 0, now.rowInUse(now.speed)}[what];
    }

    public int row(int row, int what) {
        needRow(row);
        need(what >= 0 && what <= 3);
        return now.rows.get(row)[what];
    }

    public int gain(int speed, int what) {
        need(speed >= 0 && speed <= 400 && what >= 1 && what <= 3);
        return now.gainAt(speed, what);
    }

    public int wind(int tick) {
        need(tick >= 0 && tick <= 20000);
        return now.windAt(tick);
    }

    public int error(int heading, int course) {
        need(heading >= 0 && heading <= 3599 && course >= 0 && course <= 3599);
        return errorOf(heading, course);
    }

    public int why() {
        Data d = now.copy();
        int[] begun = d.begin();
        if (begun[2] == 1) return 1;
        if (begun[1] > d.limit || begun[1] < -d.limit) return 2;
        return begun[1] - d.rudder > d.rudderRate || d.rudder - begun[1] > d.rudderRate ? 3 : 0;
    }

    public int wanted() {
        return now.copy().begin()[1];
    }

    public int foretold(int ticks, int what) {
        need(ticks >= 1 && ticks <= 300 && what >= 0 && what <= 6);
        Data d = now.copy();
        int greatest = 0;
        for (int i = 0; i < ticks; i++) {
            d.tick();
            greatest = Math.max(greatest, Math.abs(d.errorNow()));
        }
        return new int[] {d.heading, d.rate, d.rudder, d.speed, d.wear - now.wear, d.alarms - now.alarms, greatest}[what];
    }

    private static int settlesFrom(Data data, int limit) {
        Data d = data.copy();
        List<Boolean> on = new ArrayList<>();
        for (int i = 1; i <= limit; i++) {
            d.tick();
            on.add(Math.abs(d.errorNow()) <= d.dead);
            if (i >= 5 && !on.subList(i - 5, i).contains(false)) return i;
        }
        return -1;
    }

    private static int swingsFrom(Data data, int ticks) {
        Data d = data.copy();
        int error = d.errorNow();
        int greatest = 0;
        for (int i = 0; i < ticks; i++) {
            d.tick();
            int then = d.errorNow();
            if (error > 0 && then < 0 || error < 0 && then > 0) greatest = Math.max(greatest, Math.abs(then));
        }
        return greatest;
    }

    public int settles(int limit) {
        need(limit >= 5 && limit <= 300);
        return settlesFrom(now, limit);
    }

    public int swings(int ticks) {
        need(ticks >= 1 && ticks <= 300);
        return swingsFrom(now, ticks);
    }

    public int tunes(int row, int limit) {
        needRow(row);
        need(limit >= 5 && limit <= 100);
        List<int[]> tries = new ArrayList<>();
        for (int p = 0; p <= 400; p += 20) {
            Data d = now.copy();
            d.rows.get(row)[1] = p;
            int settled = settlesFrom(d, limit);
            tries.add(new int[] {settled == -1 ? 999 : settled, swingsFrom(d, limit), p});
        }
        tries.sort((a, b) -> Arrays.compare(a, b));
        return tries.get(0)[2];
    }

    public double meanWear() {
        return now.time == 0 ? 0.0 : (double) now.wear / now.time;
    }

    public int pass(int ticks) {
        need(ticks >= 1 && ticks <= 50);
        change();
        int alarms = now.alarms;
        for (int i = 0; i < ticks; i++) now.tick();
        return now.alarms - alarms;
    }

    public int steer(int course) {
        need(course >= 0 && course <= 3599);
        change();
        now.course = course;
        return now.errorNow();
    }

    public int order(int speed) {
        need(speed >= 0 && speed <= 400);
        change();
        now.ordered = speed;
        int ticks = 0;
        for (int left = Math.abs(now.ordered - now.speed); left > 0; left -= now.pull) ticks++;
        return ticks;
    }

    public int gust(int first, int last, int strength) {
        need(first >= 0 && first <= 9999 && last >= first && last <= 9999 && strength >= -99 && strength <= 99);
        if (now.gusts.size() == 8) throw new IllegalStateException();
        change();
        now.gusts.add(new int[] {first, last, strength});
        return now.windAt(now.time);
    }

    public int gains(int row, int p, int i, int d) {
        needRow(row);
        need(p >= 0 && p <= 999 && i >= 0 && i <= 99 && d >= 0 && d <= 999);
        change();
        int[] r = now.rows.get(row);
        r[1] = p;
        r[2] = i;
        r[3] = d;
        return now.gainAt(now.speed, 1);
    }

    public boolean smooth(boolean isSmooth) {
        change();
        boolean was = now.smooth;
        now.smooth = isSmooth;
        return was;
    }

    public int undo() {
        if (before.isEmpty()) return -1;
        now = before.pop();
        return before.size();
    }

    public long checksum() {
        List<Integer> numbers = new ArrayList<>();
        for (int i = 0; i <= 16; i++) numbers.add(state(i));
        for (int[] row : now.rows) for (int n : row) numbers.add(n);
        numbers.add(wanted());
        numbers.add(why());
        if (now.time <= 20000) numbers.add(wind(now.time));
        long sum = 0;
        for (int n : numbers) sum = 31 * sum + n;
        return sum;
    }
}
