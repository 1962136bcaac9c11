import java.nio.ByteBuffer;
import java.nio.charset.StandardCharsets;
import java.nio.file.Files;
import java.nio.file.Path;
import java.util.ArrayList;
import java.util.Arrays;
import java.util.List;
import java.util.concurrent.Callable;

/** What the tests share: checks of answers and exceptions, setup texts, and the sentences that are under test. */
abstract class Checks {
    static final String BAD_ARGUMENT = "throws.IllegalArgumentException";
    static final String BAD_INDEX = "throws.IndexOutOfBoundsException";
    static final String BAD_STATE = "throws.IllegalStateException";
    static final int[] WILD = {Integer.MIN_VALUE, Integer.MIN_VALUE + 1, Integer.MAX_VALUE};

    private static final Path DOCUMENT = Path.of("../shared/DOC.md");

    private static String section = "";
    private static String part = "";
    private static int passed = 0;
    private static int failed = 0;
    private static int passedBeforePart = 0;
    private static int sentences = 0;
    /** Pairs of a section's heading and words that it must hold. */
    private static final List<String[]> quotes = new ArrayList<>();

    static void promise(String name) {
        part = name;
    }

    /** Begins the tests of a section of the document, by its heading. */
    static void section(String heading) {
        section = heading;
    }

    /** Begins the test of a sentence that names a boundary case, by its words in the document. */
    static void sentence(String words) {
        endSentence();
        sentences++;
        part = section + ", \"" + words + "\"";
        quotes.add(new String[] {section, words});
    }

    private static void endSentence() {
        if (sentences > 0 && passed + failed == passedBeforePart) fail(part + ": nothing is checked");
        passedBeforePart = passed + failed;
    }

    static void finish() {
        if (sentences > 0) {
            endSentence();
            checkQuotes();
            System.out.print(sentences + " sentences, ");
        }
        System.out.println(passed + " passed, " + failed + " failed");
        if (failed != 0) System.exit(1);
    }

    private static void fail(String told) {
        failed++;
        System.out.println(told);
    }

    private static void checkQuotes() {
        if (!Files.isReadable(DOCUMENT)) {
            System.out.println("no document at " + DOCUMENT + ": the words of the sentences are not compared");
            return;
        }
        String document;
        try {
            document = Files.readString(DOCUMENT);
        } catch (java.io.IOException e) {
            fail("the document cannot be read: " + e);
            return;
        }
        for (String[] quote : quotes) {
            int start = document.indexOf("## " + quote[0] + "\n");
            int end = document.indexOf("\n## ", Math.max(start, 0));
            String text = start < 0 ? "" : document.substring(start, end < 0 ? document.length() : end);
            if (!text.replaceAll("\\s+", " ").contains(quote[1])) {
                fail("the section " + quote[0] + " of the document does not say: " + quote[1]);
            }
        }
    }

    /** The answer as a text; of a call that throws, the exception's name behind "throws.". */
    static String answerOf(Callable<?> call) {
        try {
            return String.valueOf(call.call());
        } catch (Exception e) {
            return "throws." + e.getClass().getSimpleName();
        }
    }

    static void due(String what, Object want, Callable<?> call) {
        String got = answerOf(call);
        if (got.equals(String.valueOf(want))) {
            passed++;
        } else {
            fail(part + ": " + what + " answered " + got + ", due is " + want);
        }
    }

    static void dueState(RudderSchedule x, int what, int want) {
        due("state(" + what + ")", want, () -> x.state(what));
    }

    static RudderSchedule made(String text) {
        RudderSchedule x = new RudderSchedule();
        due("load of " + text, true, () -> loaded(x, text) > 0);
        return x;
    }

    static int loaded(RudderSchedule x, String text) {
        fill(x, text);
        return x.load(text.length());
    }

    static void fill(RudderSchedule x, String text) {
        byte[] bytes = text.getBytes(StandardCharsets.ISO_8859_1);
        ByteBuffer all = ByteBuffer.wrap(Arrays.copyOf(bytes, (bytes.length + 19) / 20 * 20));
        while (all.hasRemaining()) x.append(all.getInt(), all.getInt(), all.getInt(), all.getInt(), all.getInt());
    }

    static void dueFault(String text, int code, int offset) {
        RudderSchedule x = new RudderSchedule();
        due("load of " + text, code, () -> loaded(x, text));
        due("errorOffset behind " + text, offset, x::errorOffset);
    }

    static void dueGood(String text, int rows) {
        dueFault(text, rows, -1);
    }

    interface IntCall {
        Object of(int number) throws Exception;
    }

    /** The test of words that name a range: its ends and its middle are taken, the next numbers beyond are refused. */
    static void range(String words, int low, int high, String exception, IntCall call) {
        sentence(words);
        for (int taken : new int[] {low, (low + high) / 2, high}) dueTaken("" + taken, taken, call);
        due("" + (low - 1), exception, () -> call.of(low - 1));
        due("" + (high + 1), exception, () -> call.of(high + 1));
    }

    /** Numbers beyond the range from low to high, the wildest ones too, are refused; the ends of it are not. */
    static void dueRefused(String what, int low, int high, String exception, IntCall call) {
        for (int refused : new int[] {low - 1, high + 1, high + 100000, Integer.MIN_VALUE, Integer.MIN_VALUE + 1, Integer.MAX_VALUE}) {
            due(what + " of " + refused, exception, () -> call.of(refused));
        }
        for (int taken : new int[] {low, high}) dueTaken(what + " of " + taken, taken, call);
    }

    private static void dueTaken(String what, int taken, IntCall call) {
        due(what + " throws", false, () -> answerOf(() -> call.of(taken)).startsWith("throws."));
    }

    /** Both tell the same of themselves and of what comes. */
    static void dueAlike(RudderSchedule x, RudderSchedule like) {
        due("checksum()", like.checksum(), x::checksum);
        for (int what = 0; what <= 6; what++) {
            int w = what;
            due("foretold(100, " + w + ")", like.foretold(100, w), () -> x.foretold(100, w));
        }
    }

    /** A ship on its way, with 3 changes that can be undone. */
    static RudderSchedule shipOnItsWay() {
        RudderSchedule x = made("ship 100 200;course 400;row 0 90 5 80;row 150 70 3 60;gust 0 50 2;"
            + "yaw rudder*speed/1500-rate/2+wind;");
        x.pass(20);
        x.order(90);
        return x;
    }

    static void dueGains(RudderSchedule x, int[] speedAndGains) {
        for (int what = 1; what <= 3; what++) {
            int w = what;
            due("gain(" + speedAndGains[0] + ", " + w + ")", speedAndGains[w], () -> x.gain(speedAndGains[0], w));
        }
    }

    /** What state(what) tells behind the first tick. */
    static int behindTick(RudderSchedule x, int what) {
        x.pass(1);
        return x.state(what);
    }

    static void dueBehindTick(String text, int what, int want) {
        RudderSchedule x = made(text);
        due("state(" + what + ") behind a tick of " + text, want, () -> behindTick(x, what));
    }

    static String repeated(String piece, int times) {
        return piece.repeat(times);
    }
}
