import java.lang.reflect.InvocationTargetException;
import java.lang.reflect.Method;
import java.nio.file.Files;
import java.nio.file.Path;
import java.util.ArrayList;
import java.util.List;
import java.util.regex.Matcher;
import java.util.regex.Pattern;

/** What README.md tells of the class: its example, its table of statements and its table of calls. */
public final class ReadmeTest extends Checks {
    private static final Pattern EXAMPLE = Pattern.compile("(?m)^ship\\.(\\w+)\\((.*)\\); +// (throws )?(-?[\\w.]+):? ?.*$");
    private static final Pattern RANGE = Pattern.compile("(?:rising from )?(-?\\d+|FIRST) to (-?\\d+)");

    public static void main(String[] args) throws Exception {
        String readme = Files.readString(Path.of("README.md"));
        promise("README.md, the example");
        example(readme);
        promise("README.md, the setup text");
        statements(readme);
        defaults(readme);
        promise("README.md, the calls");
        calls(readme);
        finish();
    }

    private static void example(String readme) {
        Matcher text = Pattern.compile("```text\n(ship .*)\n```").matcher(readme);
        due("the setup text stands", true, text::find);
        RudderSchedule ship = new RudderSchedule();
        due("load", 2, () -> loaded(ship, text.group(1)));
        Matcher line = EXAMPLE.matcher(readme);
        int lines = 0;
        while (line.find()) {
            lines++;
            String want = (line.group(3) == null ? "" : "throws.") + line.group(4);
            due(line.group(), want, () -> called(ship, line.group(1), line.group(2).split(", *")));
        }
        due("lines of the example", lines, () -> readme.split("(?m)^ship\\.", -1).length - 1);
        int found = lines;
        due("an example stands", true, () -> found > 0);
    }

    private static Object called(RudderSchedule ship, String name, String[] numbers) throws Exception {
        for (Method method : RudderSchedule.class.getMethods()) {
            if (!method.getName().equals(name)) continue;
            Object[] args = new Object[method.getParameterCount()];
            for (int i = 0; i < args.length; i++) args[i] = Integer.valueOf(numbers[i]);
            try {
                return method.invoke(ship, args);
            } catch (InvocationTargetException e) {
                throw (Exception) e.getCause();
            }
        }
        throw new IllegalStateException(name);
    }

    /** The cells of the rows of a table, of those rows whose first cell begins with code. */
    private static List<String[]> rows(String readme, String heading) {
        String part = readme.substring(readme.indexOf("### " + heading));
        int end = part.indexOf("\n#", 1);
        List<String[]> rows = new ArrayList<>();
        for (String line : part.substring(0, end).split("\n")) {
            if (line.startsWith("| `")) rows.add(line.substring(2).split(" *\\| *", -1));
        }
        return rows;
    }

    /** A statement with the ends of its ranges is taken, and with a number beyond one of them it is not. */
    private static void statements(String readme) {
        List<String[]> rows = rows(readme, "The setup text");
        due("statements", 11, rows::size);
        for (String[] cells : rows) {
            String word = cells[0].substring(1).split("[ `]")[0];
            List<int[]> ranges = new ArrayList<>();
            Matcher range = RANGE.matcher(cells[1]);
            while (!word.equals("yaw") && range.find()) {
                int low = range.group(1).equals("FIRST") ? 0 : Integer.parseInt(range.group(1));
                ranges.add(new int[] {low, Integer.parseInt(range.group(2))});
            }
            if (word.equals("row")) {
                dueRanges("row 0 0 0 0;row", ranges, 2, 1);
            } else {
                dueRanges(word, ranges, 1, 0);
            }
        }
        dueGood("ship 0 0;yaw ((((9999+rudder)-speed)*rate)/wind);", 1);
        dueFault("ship 0 0;yaw (((((9999)))));", RudderSchedule.TOO_DEEP, 17);
        dueFault("ship 0 0;yaw 10000;", RudderSchedule.OUT_OF_RANGE, 13);
    }

    /** The lowest number of the first range may be one that the statement ahead leaves out. */
    private static void dueRanges(String ahead, List<int[]> ranges, int count, int leftOut) {
        for (int place = 0; place < ranges.size(); place++) {
            int[] range = ranges.get(place);
            int lowest = range[0] + (place == 0 ? leftOut : 0);
            for (int number : new int[] {lowest, range[1]}) dueGood(statement(ahead, ranges, place, number), count);
            String beyond = statement(ahead, ranges, place, range[1] + 1);
            due("load of " + beyond, RudderSchedule.OUT_OF_RANGE, () -> loaded(new RudderSchedule(), beyond));
            String below = statement(ahead, ranges, place, lowest - 1);
            due("load of " + below, true, () -> loaded(new RudderSchedule(), below) < 0);
        }
        if (ranges.isEmpty() && !ahead.equals("yaw")) dueGood("ship 0 0;" + ahead + ";", count);
    }

    /** All numbers but the one at this place are the highest of their ranges. */
    private static String statement(String ahead, List<int[]> ranges, int place, int number) {
        StringBuilder text = new StringBuilder("ship 0 0;").append(ahead);
        for (int i = 0; i < ranges.size(); i++) {
            // A gust's last tick may not be less than its first.
            boolean isLastTick = ahead.equals("gust") && place == 1 && i == 0;
            text.append(' ').append(i == place ? number : isLastTick ? 0 : ranges.get(i)[1]);
        }
        return text.append(';').toString();
    }

    /** A ship goes on alike if each statement that can be left out stands with the numbers that count without it. */
    private static void defaults(String readme) {
        StringBuilder text = new StringBuilder("ship 700 150;");
        for (String[] cells : rows(readme, "The setup text")) {
            String word = cells[0].substring(1).split("[ `]")[0];
            String without = cells[2].replace("`", "").replace("one: ", "").replace(",", "");
            boolean isOfShip = without.contains("of ship");
            String numbers = word.equals("course") ? "700" : word.equals("speed") ? "150" : without;
            due(word + " is as of ship", word.equals("course") || word.equals("speed"), () -> isOfShip);
            if (!word.equals("smooth") && !word.equals("gust")) text.append(word).append(' ').append(numbers).append(';');
        }
        due("courses with which the ships differ", 0, () -> differences("ship 700 150;", text.toString()));
    }

    private static int differences(String bare, String told) {
        int different = 0;
        for (int course = 0; course < 3600; course++) {
            RudderSchedule x = new RudderSchedule();
            RudderSchedule like = new RudderSchedule();
            loaded(x, told);
            loaded(like, bare);
            boolean isAlike = isAlike(x, like);
            x.steer(course);
            like.steer(course);
            x.order(77);
            like.order(77);
            for (int ticks : new int[] {1, 1, 28}) {
                x.pass(ticks);
                like.pass(ticks);
                isAlike &= isAlike(x, like);
            }
            if (!isAlike) different++;
        }
        return different;
    }

    private static boolean isAlike(RudderSchedule x, RudderSchedule like) {
        return x.checksum() == like.checksum();
    }

    private static void calls(String readme) {
        List<String> told = new ArrayList<>();
        for (String[] cells : rows(readme, "The calls")) told.add(cells[0].substring(1, cells[0].indexOf('(')));
        List<String> face = new ArrayList<>();
        for (Method method : RudderSchedule.class.getMethods()) {
            if (method.getDeclaringClass() == RudderSchedule.class) face.add(method.getName());
        }
        face.sort(null);
        due("calls", face, () -> {
            told.sort(null);
            return told;
        });
    }
}
