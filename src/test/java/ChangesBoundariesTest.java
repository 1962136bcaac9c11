import java.util.ArrayList;
import java.util.List;
import java.util.concurrent.Callable;

/** The sentences of "Changes" that name a boundary case, and those of the promises of undo. */
public final class ChangesBoundariesTest extends Checks {
    private static final String TEXT = "ship 100 200;course 400;row 0 90 5 80;row 150 70 3 60;gust 0 50 2;yaw rudder*speed/1500-rate/2+wind;";

    public static void main(String[] args) {
        section("Terms");
        changingMethods();
        changesWithoutEffect();
        otherCallsAreNoChanges();
        latestEight();
        finalChanges();
        beforeTheFirstLoad();
        firstException();
        exceptionsChangeNothing();
        section("Promise 23: undo");
        undoesTheLatest();
        bufferAndOffsetStay();
        answersOfUndo();
        noneToUndo();
        finish();
    }

    /** Each kind of change, told by a method that makes it. */
    private static List<Callable<?>> changesOf(RudderSchedule x) {
        return List.of(() -> loaded(x, TEXT.replace("course 400", "course 500")), () -> x.pass(7), () -> x.steer(3000),
            () -> x.order(60), () -> x.gust(0, 30, -8), () -> x.gains(1, 1, 2, 3), () -> x.smooth(true));
    }

    private static void changingMethods() {
        sentence("The changing methods are load (when it succeeds), pass, steer, order, gust, gains and smooth;");
        for (int i = 0; i < changesOf(new RudderSchedule()).size(); i++) {
            RudderSchedule x = made(TEXT);
            x.undo();
            due("no change yet", -1, x::undo);
            loaded(x, TEXT);
            long before = x.checksum();
            Callable<?> change = changesOf(x).get(i);
            due("change " + i + " throws", false, () -> answerOf(change).startsWith("throws."));
            due("change " + i + " changes", false, () -> x.checksum() == before);
            due("change " + i + " can be undone", 1, x::undo);
            due("change " + i + " is undone", before, x::checksum);
            due("the load can be undone", 0, x::undo);
            due("none is left", -1, x::undo);
        }
        RudderSchedule y = made(TEXT);
        due("load with an error is none", -2, () -> loaded(y, TEXT + "x"));
        due("only the first load", 0, y::undo);
    }

    private static void changesWithoutEffect() {
        sentence("each such call that does not throw an exception is a change, also if all data stay as they were.");
        RudderSchedule x = made("ship 0 0;gust 0 0 0;");
        long before = x.checksum();
        loaded(x, "ship 0 0;gust 0 0 0;");
        x.steer(0);
        x.order(0);
        x.gains(0, 100, 0, 200);
        x.smooth(false);
        due("all data are as they were", before, x::checksum);
        for (int left = 5; left >= 0; left--) {
            int l = left;
            due("undo", l, x::undo);
        }
        due("undo", -1, x::undo);
    }

    private static void otherCallsAreNoChanges() {
        sentence("each such call that does not throw an exception is a change");
        RudderSchedule x = made(TEXT);
        x.pass(3);
        x.append(0, 0, 0, 0, 0);
        x.errorOffset();
        x.state(0);
        x.row(0, 0);
        x.gain(0, 1);
        x.wind(0);
        x.error(0, 0);
        x.why();
        x.wanted();
        x.foretold(9, 0);
        x.settles(9);
        x.swings(9);
        x.tunes(0, 9);
        x.meanWear();
        x.checksum();
        for (Callable<?> refused : refusedChanges(x)) {
            due("a refused call", true, () -> answerOf(refused).startsWith("throws."));
        }
        due("only load and pass are changes", 1, x::undo);
        due("undo is none", 0, x::undo);
        due("none is left", -1, x::undo);
    }

    private static List<Callable<?>> refusedChanges(RudderSchedule x) {
        return List.of(() -> x.load(-1), () -> x.load(501), () -> x.pass(0), () -> x.pass(51), () -> x.steer(-1), () -> x.steer(3600),
            () -> x.order(-1), () -> x.order(401), () -> x.gust(5, 4, 0));
    }

    private static void latestEight() {
        sentence("The latest 8 changes can be undone, the latest one first;");
        for (int changes = 1; changes <= 20; changes++) {
            RudderSchedule x = new RudderSchedule();
            for (int i = 1; i <= changes; i++) x.steer(i);
            int kept = Math.min(changes, 8);
            for (int undone = 1; undone <= kept; undone++) {
                int left = kept - undone;
                due("undo " + undone + " of " + changes, left, x::undo);
                dueState(x, 5, changes - undone);
            }
            due("no more of " + changes, -1, x::undo);
            dueState(x, 5, changes - kept);
        }
    }

    private static void finalChanges() {
        sentence("a change is final as soon as 8 later ones, none of them undone, have been made.");
        // 9 changes make the first one final; that later ones are undone does not alter it.
        RudderSchedule x = steered(9);
        for (int i = 0; i < 8; i++) x.undo();
        dueState(x, 5, 1);
        due("the first of 9 is final", -1, x::undo);
        // 7 later ones do not.
        RudderSchedule y = steered(8);
        for (int i = 0; i < 8; i++) y.undo();
        dueState(y, 5, 0);
        // An undone change does not count as a later one.
        RudderSchedule z = steered(8);
        due("undo of the 8th", 7, z::undo);
        z.steer(100);
        for (int i = 0; i < 7; i++) z.undo();
        dueState(z, 5, 1);
        due("the first one can still be undone", 0, z::undo);
        dueState(z, 5, 0);
        // Many changes and undos in turn.
        RudderSchedule turns = new RudderSchedule();
        turns.steer(1);
        for (int i = 0; i < 30; i++) {
            turns.steer(100 + i);
            due("undo in turn " + i, 1, turns::undo);
        }
        due("the first one", 0, turns::undo);
        dueState(turns, 5, 0);
        // Undone changes leave room for others: 3 final ones, then 5 undone, then 5 others.
        RudderSchedule others = steered(11);
        for (int i = 0; i < 5; i++) others.undo();
        dueState(others, 5, 6);
        for (int i = 0; i < 5; i++) others.steer(200 + i);
        for (int left = 7; left >= 0; left--) {
            int l = left;
            due("undo of others", l, others::undo);
        }
        dueState(others, 5, 3);
        due("the 3rd one is final", -1, others::undo);
        // 5 undone and 6 others: now the 4th is final too.
        RudderSchedule more = steered(11);
        for (int i = 0; i < 5; i++) more.undo();
        for (int i = 0; i < 6; i++) more.steer(200 + i);
        for (int i = 0; i < 8; i++) more.undo();
        dueState(more, 5, 4);
        due("the 4th one is final", -1, more::undo);
    }

    /** Changes 1 to so many: each steers the course of its number. */
    private static RudderSchedule steered(int changes) {
        RudderSchedule x = new RudderSchedule();
        for (int i = 1; i <= changes; i++) x.steer(i);
        return x;
    }

    private static void beforeTheFirstLoad() {
        sentence("Before the first successful load all is as by the text \"ship 0 0;\".");
        RudderSchedule x = new RudderSchedule();
        loaded(x, "ship 9 9;x");
        RudderSchedule y = made("ship 0 0;");
        y.undo();
        RudderSchedule z = made("ship 0 0;");
        dueAlike(x, z);
        dueAlike(new RudderSchedule(), z);
        dueAlike(y, z);
        for (RudderSchedule each : new RudderSchedule[] {x, y, z}) {
            each.order(200);
            each.steer(1234);
            each.gust(2, 9, 20);
            each.pass(50);
        }
        dueAlike(x, z);
        dueAlike(y, z);
    }

    private static void firstException() {
        sentence("If several exceptions apply to a call, the one that is listed first with the method is thrown.");
        RudderSchedule x = made("ship 0 0;" + repeated("gust 0 0 0;", 8));
        due("row", BAD_INDEX, () -> x.row(-1, -1));
        due("row", BAD_INDEX, () -> x.row(1, 4));
        due("row", BAD_ARGUMENT, () -> x.row(0, 4));
        due("tunes", BAD_INDEX, () -> x.tunes(-1, 4));
        due("tunes", BAD_INDEX, () -> x.tunes(1, 101));
        due("tunes", BAD_ARGUMENT, () -> x.tunes(0, 101));
        due("gains", BAD_INDEX, () -> x.gains(-1, -1, -1, -1));
        due("gains", BAD_INDEX, () -> x.gains(1, 1000, 100, 1000));
        due("gains", BAD_ARGUMENT, () -> x.gains(0, 1000, 100, 1000));
        due("gust, the first tick", BAD_ARGUMENT, () -> x.gust(-1, 0, 0));
        due("gust, the last tick", BAD_ARGUMENT, () -> x.gust(5, 4, 0));
        due("gust, the strength", BAD_ARGUMENT, () -> x.gust(5, 5, 100));
        due("gust, full", BAD_STATE, () -> x.gust(5, 5, 99));
    }

    private static void exceptionsChangeNothing() {
        sentence("A method that throws an exception changes nothing.");
        List<String> names = new ArrayList<>();
        for (int i = 0; i < throwingCalls(new RudderSchedule()).size(); i++) {
            RudderSchedule x = used();
            RudderSchedule twin = used();
            Callable<?> call = throwingCalls(x).get(i);
            String answer = answerOf(call);
            names.add(answer);
            due("call " + i + " throws", true, () -> answer.startsWith("throws.I"));
            due("errorOffset()", twin.errorOffset(), x::errorOffset);
            dueAlike(x, twin);
            due("append(..)", twin.append(0x20202020, 0x20202020, 0x20202020, 0x20202020, 0x20202020),
                () -> x.append(0x20202020, 0x20202020, 0x20202020, 0x20202020, 0x20202020));
            due("undo()", twin.undo(), x::undo);
            dueAlike(x, twin);
            due("load of the buffer", twin.load(40), () -> x.load(40));
            dueAlike(x, twin);
        }
        due("kinds of exceptions", 3L, () -> names.stream().distinct().count());
    }

    /** Changed, full of gusts, with an error found by load, and with a text in the buffer. */
    private static RudderSchedule used() {
        RudderSchedule x = new RudderSchedule();
        loaded(x, TEXT + repeated("gust 9 9 1;", 7));
        x.order(140);
        loaded(x, "ship 0 0;dead 91;");
        x.pass(12);
        x.steer(3333);
        fill(x, "ship 7 8;course 90; ");
        return x;
    }

    private static List<Callable<?>> throwingCalls(RudderSchedule x) {
        List<Callable<?>> calls = new ArrayList<>(refusedChanges(x));
        calls.addAll(List.of(() -> x.load(21), () -> x.state(-1), () -> x.state(17), () -> x.row(-1, 0), () -> x.row(2, 0),
            () -> x.row(0, -1), () -> x.row(0, 4), () -> x.gain(401, 1)));
        calls.addAll(List.of(() -> x.gain(-1, 1), () -> x.gain(0, 0), () -> x.gain(0, 4), () -> x.wind(-1), () -> x.wind(20001),
            () -> x.error(-1, 0), () -> x.error(3600, 0), () -> x.error(0, 3600)));
        calls.addAll(List.of(() -> x.foretold(0, 0), () -> x.foretold(301, 0), () -> x.foretold(1, -1), () -> x.foretold(1, 7),
            () -> x.settles(4), () -> x.settles(301), () -> x.swings(0), () -> x.swings(301)));
        calls.addAll(List.of(() -> x.tunes(-1, 5), () -> x.tunes(2, 5), () -> x.tunes(0, 4), () -> x.tunes(0, 101)));
        calls.addAll(List.of(() -> x.gust(-1, 0, 0), () -> x.gust(0, 10000, 0), () -> x.gust(0, 0, 100), () -> x.gust(0, 0, -100),
            () -> x.gust(0, 0, 1), () -> x.gains(-1, 0, 0, 0), () -> x.gains(2, 0, 0, 0)));
        calls.addAll(List.of(() -> x.gains(0, 1000, 0, 0), () -> x.gains(0, 0, 100, 0), () -> x.gains(0, 0, 0, 1000),
            () -> x.gains(1, -1, 0, 0), () -> x.gains(1, 0, -1, 0), () -> x.gains(1, 0, 0, -1)));
        return calls;
    }

    private static void undoesTheLatest() {
        sentence("Undoes the latest change that is not final and has not been undone.");
        RudderSchedule x = new RudderSchedule();
        loaded(x, TEXT);
        List<Long> sums = new ArrayList<>();
        List<Integer> headings = new ArrayList<>();
        for (Callable<?> change : changesOf(x)) {
            sums.add(x.checksum());
            headings.add(x.foretold(50, 0));
            answerOf(change);
        }
        for (int i = sums.size() - 1; i >= 0; i--) {
            int left = i + 1;
            due("undo of change " + i, left, x::undo);
            due("checksum() ahead of change " + i, sums.get(i), x::checksum);
            due("foretold(50, 0) ahead of change " + i, headings.get(i), () -> x.foretold(50, 0));
        }
        due("undo of the first load", 0, x::undo);
        dueAlike(x, new RudderSchedule());
        RudderSchedule rows = made("ship 0 0;row 0 1 2 3;");
        loaded(rows, "ship 0 0;row 0 4 5 6;row 7 8 9 10;smooth;");
        rows.undo();
        due("the rows of the later load are gone", BAD_INDEX, () -> rows.row(1, 0));
        due("the gain of the earlier one", 1, () -> rows.gain(5, 1));
        RudderSchedule gusts = made("ship 0 0;" + repeated("gust 0 9 1;", 7));
        gusts.gust(0, 9, 1);
        due("full", BAD_STATE, () -> gusts.gust(0, 9, 1));
        gusts.undo();
        due("wind(0)", 7, () -> gusts.wind(0));
        due("room again", 9, () -> gusts.gust(0, 9, 2));
    }

    private static void bufferAndOffsetStay() {
        sentence("The input buffer and the error offset are not affected.");
        RudderSchedule x = made("ship 0 0;");
        due("an error", -3, () -> loaded(x, "ship 0 0;course 3600;"));
        fill(x, "ship 7 8;course 90; ");
        due("undo", 0, x::undo);
        due("errorOffset()", 16, x::errorOffset);
        due("none to undo", -1, x::undo);
        due("errorOffset()", 16, x::errorOffset);
        due("load(21)", BAD_ARGUMENT, () -> x.load(21));
        due("load(20)", 1, () -> x.load(20));
        dueState(x, 1, 7);
        due("undo of that load", 0, x::undo);
        due("its errorOffset() stays", -1, x::errorOffset);
        due("the buffer stays empty", BAD_ARGUMENT, () -> x.load(1));
        due("a full buffer", -2, () -> {
            fill(x, repeated(" ", 500));
            x.steer(1);
            x.undo();
            return x.append(0, 0, 0, 0, 0) == -1 ? x.load(500) : 0;
        });
    }

    private static void answersOfUndo() {
        sentence("Returns the number of changes that can still be undone;");
        RudderSchedule x = new RudderSchedule();
        for (int i = 1; i <= 9; i++) x.smooth(true);
        for (int left = 7; left >= 3; left--) {
            int l = left;
            due("undo", l, x::undo);
        }
        x.smooth(false);
        due("undo behind another change", 3, x::undo);
        for (int left = 2; left >= 0; left--) {
            int l = left;
            due("undo", l, x::undo);
        }
    }

    private static void noneToUndo() {
        sentence("-1 if there was none to undo, and nothing changes then.");
        RudderSchedule x = new RudderSchedule();
        due("of a new object", -1, x::undo);
        due("again", -1, x::undo);
        dueAlike(x, new RudderSchedule());
        x.order(9);
        due("undo", 0, x::undo);
        due("undo", -1, x::undo);
        dueAlike(x, new RudderSchedule());
        RudderSchedule y = steered(9);
        for (int i = 0; i < 8; i++) y.undo();
        for (int i = 0; i < 3; i++) {
            due("only a final one is left", -1, y::undo);
            dueState(y, 5, 1);
        }
        y.steer(77);
        due("a change behind it", 0, y::undo);
        dueState(y, 5, 1);
        due("and none again", -1, y::undo);
    }
}
