import java.lang.reflect.InvocationTargetException;
import java.lang.reflect.Method;
import java.lang.reflect.Modifier;
import java.util.ArrayList;
import java.util.Arrays;
import java.util.Collections;
import java.util.Comparator;
import java.util.List;
import java.util.Random;

/** Runs of calls, drawn from fixed seeds, on the class and on the model: each answer and exception must be the same. */
public final class RandomRunsTest {
    private static final int RUNS = 1500;
    /** Nothing is promised of later calls of an object. */
    private static final int CALLS = 512;

    private final Random random;
    private final RudderSchedule schedule = new RudderSchedule();
    private final Model model = new Model();
    private final List<String> told = new ArrayList<>();
    private int calls = 0;

    private RandomRunsTest(long seed) {
        random = new Random(seed);
    }

    public static void main(String[] args) throws Exception {
        int runs = args.length > 0 ? Integer.parseInt(args[0]) : RUNS;
        for (int seed = 0; seed < runs; seed++) {
            RandomRunsTest run = new RandomRunsTest(seed);
            String wrong = run.firstDifference();
            if (wrong != null) {
                run.told.forEach(System.out::println);
                System.out.println("run of seed " + seed + ": " + wrong);
                System.exit(1);
            }
        }
        System.out.println(runs + " runs answer as the model does");
    }

    private String firstDifference() throws Exception {
        List<Method> methods = new ArrayList<>();
        for (Method method : RudderSchedule.class.getDeclaredMethods()) {
            if (Modifier.isPublic(method.getModifiers())) methods.add(method);
        }
        methods.sort(Comparator.comparing(Method::getName));
        // Every 50th run lasts till after the last tick at which the wind can be asked for.
        return random.nextInt(50) == 0 ? firstDifferenceOfLongRun(methods) : firstDifferenceOf(methods, CALLS, false);
    }

    private String firstDifferenceOfLongRun(List<Method> methods) throws Exception {
        String wrong = firstDifferenceOf(methods, 60, false);
        for (int i = 0; i < 400 && wrong == null; i++) wrong = compare("pass", 50);
        return wrong == null ? firstDifferenceOf(methods, CALLS, true) : wrong;
    }

    private String firstDifferenceOf(List<Method> methods, int lastCall, boolean isToLast) throws Exception {
        while (calls < lastCall) {
            String wrong = oneCall(methods, isToLast);
            if (wrong == null && random.nextInt(3) == 0) wrong = compare("pass", some(50));
            if (wrong == null) wrong = compare("checksum");
            if (wrong != null) return wrong;
        }
        return null;
    }

    private String oneCall(List<Method> methods, boolean isToLast) throws Exception {
        if (!isToLast && random.nextInt(12) == 0) return loadText();
        Method method = methods.get(random.nextInt(methods.size()));
        return isToLast && List.of("load", "undo").contains(method.getName()) ? null : call(method);
    }

    private String call(Method method) throws Exception {
        Class<?>[] types = method.getParameterTypes();
        Object[] args = new Object[types.length];
        for (int i = 0; i < args.length; i++) {
            args[i] = types[i] == boolean.class ? (Object) random.nextBoolean() : (Object) argument(method.getName(), i);
        }
        return compare(method.getName(), args);
    }

    /** Mostly a fitting number, sometimes one at or beyond the edge, seldom a wild one. */
    private int argument(String name, int place) {
        if (random.nextInt(60) == 0) return random.nextInt();
        if (random.nextInt(200) == 0) return random.nextBoolean() ? Integer.MAX_VALUE : Integer.MIN_VALUE;
        switch (name) {
            case "append": return random.nextInt();
            case "load": return some(random.nextBoolean() ? 20 : 3);
            case "state": return some(17);
            case "row": return place == 0 ? some(4) - (random.nextInt(9) == 0 ? 1 : 0) : some(4) - (random.nextInt(9) == 0 ? 1 : 0);
            case "gain": return place == 0 ? some(400) : some(4) - (random.nextInt(9) == 0 ? 1 : 0);
            case "wind": return random.nextBoolean() ? some(60) : some(20000);
            case "foretold": return place == 0 ? some(300) : some(7);
            case "settles": return some(300);
            case "swings": return some(300);
            case "tunes": return place == 0 ? some(3) - (random.nextInt(9) == 0 ? 1 : 0) : 4 + some(97);
            case "pass": return some(50);
            case "order": return some(400);
            case "gust": return place == 2 ? some(198) - 99 : random.nextBoolean() ? some(500) : some(9999);
            case "gains": return place == 0 ? some(4) - (random.nextInt(9) == 0 ? 1 : 0) : place == 2 ? some(99) : some(999);
            default: return some(3599);
        }
    }

    /** 0 to most, or just beyond. */
    private int some(int most) {
        int drawn = random.nextInt(20);
        if (drawn == 0) return most + random.nextInt(2);
        if (drawn == 1) return -random.nextInt(2);
        return random.nextInt(most + 1);
    }

    /** 0 to most, or, seldom, just beyond. */
    private int within(int most) {
        return random.nextInt(40) == 0 ? most + random.nextInt(2) : random.nextInt(most + 1);
    }

    private String loadText() throws Exception {
        String text = text();
        byte[] bytes = Arrays.copyOf(text.getBytes(java.nio.charset.StandardCharsets.ISO_8859_1), (text.length() + 19) / 20 * 20);
        told.add("text: " + text);
        String wrong = compare("load", 0);
        for (int at = 0; at < bytes.length && wrong == null; at += 20) {
            java.nio.ByteBuffer words = java.nio.ByteBuffer.wrap(bytes, at, 20);
            wrong = compare("append", words.getInt(), words.getInt(), words.getInt(), words.getInt(), words.getInt());
        }
        if (wrong == null) wrong = compare("load", text.length());
        return wrong == null ? compare("errorOffset") : wrong;
    }

    private String text() {
        StringBuilder text = new StringBuilder("ship ").append(some(3599)).append(' ').append(some(400)).append(';');
        List<Integer> kinds = new ArrayList<>(List.of(0, 1, 2, 3, 4, 5, 6, 7, 8, 9, 10));
        Collections.shuffle(kinds, random);
        int count = random.nextInt(kinds.size() + 1);
        for (int i = 0; i < count && text.length() < 400; i++) statement(text, kinds.get(i));
        if (random.nextInt(20) == 0) statement(text, kinds.get(0));
        if (random.nextInt(4) == 0) {
            for (int left = 1 + random.nextInt(2); left > 0; left--) spoil(text);
        }
        if (random.nextInt(4) == 0) return text.toString().replace(" ", "  ");
        return text.substring(0, Math.min(text.length(), 500));
    }

    private void statement(StringBuilder text, int kind) {
        switch (kind) {
            case 0: text.append("course ").append(within(3599)); break;
            case 1: text.append("speed").append(within(400)); break;
            case 2: text.append("rudder ").append(10 + within(440) - (random.nextInt(30) == 0 ? 1 : 0)).append(' ').append(1 + within(98) - (random.nextInt(30) == 0 ? 1 : 0)); break;
            case 3: text.append("pull ").append(1 + within(49) - (random.nextInt(30) == 0 ? 1 : 0)); break;
            case 4: rows(text); return;
            case 5: text.append("smooth"); break;
            case 6: text.append("band ").append(within(900)); break;
            case 7: text.append("dead ").append(within(90)); break;
            case 8: text.append("off ").append(1 + within(random.nextBoolean() ? 30 : 1799) - (random.nextInt(30) == 0 ? 1 : 0)); break;
            case 9: gusts(text); return;
            default:
                text.append("yaw ");
                sum(text, 0);
        }
        text.append(" ; ");
    }

    private void rows(StringBuilder text) {
        int speed = 0;
        for (int left = 1 + random.nextInt(random.nextInt(6) == 0 ? 9 : 4); left > 0; left--) {
            text.append("row ").append(speed).append(' ').append(within(999)).append(' ').append(within(99)).append(' ')
                .append(within(999)).append(';');
            speed += 1 + within(random.nextBoolean() ? 40 : 100) - (random.nextInt(40) == 0 ? 1 : 0);
        }
    }

    private void gusts(StringBuilder text) {
        for (int left = 1 + random.nextInt(random.nextInt(6) == 0 ? 9 : 3); left > 0; left--) {
            int first = random.nextBoolean() ? within(100) : within(9700);
            text.append("gust ").append(first).append(' ').append(first + within(200) - (random.nextInt(30) == 0 ? 1 : 0)).append(' ')
                .append(random.nextBoolean() ? "-" : "").append(within(99)).append(';');
        }
    }

    private void sum(StringBuilder text, int depth) {
        factor(text, depth);
        for (int left = random.nextInt(4); left > 0; left--) {
            text.append("+-*/".charAt(random.nextInt(4)));
            factor(text, depth);
        }
    }

    private void factor(StringBuilder text, int depth) {
        int drawn = random.nextInt(depth < 2 ? 9 : 10);
        if (drawn >= 7 && depth <= 4 && text.length() < 350) {
            text.append('(');
            sum(text, depth + 1);
            text.append(')');
            return;
        }
        String[] words = {"rudder", "speed", "rate", "wind"};
        text.append(drawn < 4 ? words[drawn] : String.valueOf(drawn == 4 ? within(9999) : within(30)));
    }

    private void spoil(StringBuilder text) {
        String signs = " ;()+-*/09az\u0000\u00e9Sx,\n";
        int at = random.nextInt(text.length());
        char sign = signs.charAt(random.nextInt(signs.length()));
        switch (random.nextInt(4)) {
            case 0: text.setCharAt(at, sign); break;
            case 1: text.insert(at, sign); break;
            case 2: text.deleteCharAt(at); break;
            default: text.setLength(at);
        }
        if (text.length() == 0) text.append(' ');
    }

    private String compare(String name, Object... args) throws Exception {
        if (calls == CALLS) return null;
        calls++;
        Object got = answer(schedule, name, args);
        Object due = answer(model, name, args);
        told.add(name + Arrays.toString(args) + " answered " + got);
        return got.equals(due) ? null : name + Arrays.toString(args) + " answered " + got + ", due is " + due;
    }

    private static Object answer(Object object, String name, Object[] args) throws Exception {
        for (Method method : object.getClass().getDeclaredMethods()) {
            if (!method.getName().equals(name) || !Modifier.isPublic(method.getModifiers())) continue;
            try {
                return method.invoke(object, args);
            } catch (InvocationTargetException e) {
                return "throws." + e.getCause().getClass().getSimpleName();
            }
        }
        throw new IllegalStateException(name);
    }
}
