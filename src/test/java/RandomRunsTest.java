import java.lang.reflect.Method;
import java.nio.charset.StandardCharsets;
import java.util.ArrayList;
import java.util.Arrays;
import java.util.Comparator;
import java.util.List;
import java.util.Random;

/** Runs of calls by a fixed row of draws on the class and on the oracle: every answer must be the same. */
public final class RandomRunsTest {
    private static final int RUNS = Integer.getInteger("runs", 1500);
    private static final String[] SCRAPS = {"approval", "tune", "price", "notes", "house", "at", "purse", "likes",
        "glad", "hums", "draw", "or", "and", "not", "same", "turn", "long", "worn", "weeks", ";", "(", ")", "<", ">",
        "=", "+", "-", "*", "/", "%", " ", "\n", "0", "3", "6", "7", "9", "10", "99", "100", "101", "999", "1000",
        "9999", "12345", "3a", "abcdefghi", "A", "\t", "\u00e9", "a", "b"};
    private static int wrong = 0;

    private final Random draw;
    private final TuneApproval real = new TuneApproval();
    private final Oracle oracle = new Oracle();
    private final List<String> calls = new ArrayList<>();

    private RandomRunsTest(long seed) {
        draw = new Random(seed);
    }

    public static void main(String[] args) throws Exception {
        Method[] face = Arrays.stream(TuneApproval.class.getDeclaredMethods())
                .filter(m -> java.lang.reflect.Modifier.isPublic(m.getModifiers()))
                .sorted(Comparator.comparing(Method::getName)).toArray(Method[]::new);
        long answers = 0;
        for (int run = 0; run < RUNS && wrong < 5; run++) {
            RandomRunsTest test = new RandomRunsTest(run);
            answers += test.run(face, run);
        }
        System.out.println("RandomRunsTest: " + answers + " answers compared, " + wrong + " wrong");
        if (wrong != 0) {
            System.exit(1);
        }
    }

    private long run(Method[] face, int run) throws Exception {
        long answers = 0;
        int lanes = 1 + draw.nextInt(3);
        for (int lane = 0; lane < lanes; lane++) {
            String text = Texts.lane(draw);
            if (draw.nextInt(3) == 0) {
                text = spoil(text);
            }
            if (!tell(text, run)) {
                return answers;
            }
            for (int i = 0; i < 110; i++) {
                Method method = draw.nextInt(4) == 0 ? actOf(face) : face[draw.nextInt(face.length)];
                String name = method.getName();
                boolean breaksTape = (name.equals("lane") || name.equals("feed")) && draw.nextInt(8) != 0;
                if (!breaksTape && !same(method, argumentsFor(method), run)) {
                    return answers;
                }
                answers++;
            }
        }
        return answers;
    }

    private Method actOf(Method[] face) {
        String[] acts = {"bring", "week", "bring", "week", "fill", "known"};
        String act = acts[draw.nextInt(acts.length)];
        for (Method method : face) {
            if (method.getName().equals(act)) {
                return method;
            }
        }
        throw new IllegalStateException(act);
    }

    private boolean tell(String text, int run) throws Exception {
        byte[] bytes = text.getBytes(StandardCharsets.ISO_8859_1);
        Method feed = TuneApproval.class.getMethod("feed", int.class, int.class, int.class, int.class, int.class);
        Method end = TuneApproval.class.getMethod("end", int.class);
        if (!same(end, new Object[] {0}, run)) {
            return false;
        }
        for (int at = 0; at < bytes.length; at += 20) {
            Object[] five = new Object[5];
            for (int i = 0; i < 5; i++) {
                int number = 0;
                for (int k = 0; k < 4; k++) {
                    int place = at + i * 4 + k;
                    number = number << 8 | (place < bytes.length ? bytes[place] & 255 : 32);
                }
                five[i] = number;
            }
            if (!same(feed, five, run)) {
                return false;
            }
        }
        Method fault = TuneApproval.class.getMethod("fault", int.class);
        return same(end, new Object[] {Math.min(bytes.length, 1600)}, run)
                && same(TuneApproval.class.getMethod("lane"), new Object[0], run)
                && same(fault, new Object[] {0}, run) && same(fault, new Object[] {1}, run);
    }

    private String spoil(String text) {
        StringBuilder spoiled = new StringBuilder(text);
        int times = 1 + draw.nextInt(2);
        for (int i = 0; i < times; i++) {
            int at = draw.nextInt(spoiled.length() + 1);
            switch (draw.nextInt(3)) {
                case 0 -> spoiled.insert(at, SCRAPS[draw.nextInt(SCRAPS.length)]);
                case 1 -> spoiled.delete(at, Math.min(spoiled.length(), at + 1 + draw.nextInt(6)));
                default -> spoiled.setLength(at);
            }
        }
        return spoiled.toString();
    }

    private Object[] argumentsFor(Method method) {
        Class<?>[] kinds = method.getParameterTypes();
        Object[] values = new Object[kinds.length];
        for (int i = 0; i < kinds.length; i++) {
            values[i] = kinds[i] == boolean.class ? (Object) draw.nextBoolean() : (Object) number(method, i);
        }
        return values;
    }

    private int number(Method method, int i) {
        String name = method.getName();
        if (draw.nextInt(25) == 0) {
            int[] odd = {-1, -2, Integer.MIN_VALUE, Integer.MAX_VALUE, 4, 5, 7, 60, 61, 99, 100, 999, 1000, 1001};
            return odd[draw.nextInt(odd.length)];
        }
        if (name.equals("about")) {
            return draw.nextInt(15);
        }
        if (name.equals("walk") || name.equals("along")) {
            return draw.nextInt(100);
        }
        if (name.equals("fill") && i == 1) {
            return draw.nextInt(52);
        }
        if (name.equals("law") && i == 1) {
            return draw.nextInt(200);
        }
        if (name.equals("known") && i == 1) {
            return draw.nextInt(14) - 3;
        }
        if (name.equals("find") || name.equals("hum")) {
            return draw.nextInt(7);
        }
        if (name.equals("later")) {
            return draw.nextInt(4);
        }
        boolean atTime = name.equals("rows") || (name.equals("sure") || name.equals("ask")) && i == 1;
        if (atTime) {
            return draw.nextInt(12);
        }
        return draw.nextInt(method.getName().equals("will") || name.equals("purse") ? 6 : 5);
    }

    private boolean same(Method method, Object[] arguments, int run) throws Exception {
        Method twin = Oracle.class.getDeclaredMethod(method.getName(), method.getParameterTypes());
        calls.add(method.getName() + Arrays.toString(arguments));
        Object got;
        try {
            got = method.invoke(real, arguments);
        } catch (java.lang.reflect.InvocationTargetException thrown) {
            got = thrown.getCause();
        }
        Object want = twin.invoke(oracle, arguments);
        if (got.equals(want)) {
            return true;
        }
        wrong++;
        System.out.println("run " + run + ": " + calls.get(calls.size() - 1) + " answered " + got + ", due is " + want);
        System.out.println("  behind " + calls);
        return false;
    }
}
