import java.lang.reflect.InvocationTargetException;
import java.lang.reflect.Method;
import java.lang.reflect.Modifier;
import java.util.ArrayList;
import java.util.Arrays;
import java.util.Comparator;
import java.util.List;
import java.util.Random;

/** Long runs of calls of every method, with good and bad arguments, each answer compared with the model's. */
public final class ModelTest {
    private static final int RUNS = 3000;
    private static final int CALLS = 120;
    private static final int LONG_RUNS = 100;
    /** As often as the document lets an object be used; the digest at a run's end is one of them. */
    private static final int MOST_CALLS = 512;
    private static final int BOARDS = 3;
    private static final int[] EXTREMES = {
        Integer.MIN_VALUE, Integer.MIN_VALUE + 1, Integer.MAX_VALUE, -1, 0, 1, 1 << 20, 1 << 30, -(1 << 20)
    };

    private final Check check = new Check("ModelTest");
    private final Random random = new Random(7794);
    private final List<Method> own = new ArrayList<>();
    private final List<Method> due = new ArrayList<>();

    public static void main(String[] args) throws Exception {
        new ModelTest().run();
    }

    private void run() throws Exception {
        Method[] methods = Exactdoubles.class.getDeclaredMethods();
        Arrays.sort(methods, Comparator.comparing(Method::getName));
        for (Method method : methods) {
            if (Modifier.isPublic(method.getModifiers())) {
                own.add(method);
                due.add(Model.class.getDeclaredMethod(method.getName(), method.getParameterTypes()));
            }
        }
        for (int i = 0; i < RUNS; i++) {
            oneRun("run " + i, CALLS);
        }
        for (int i = 0; i < LONG_RUNS; i++) {
            oneRun("long run " + i, MOST_CALLS - Boards.CELLS - 1);
        }
        for (int i = 0; i < LONG_RUNS; i++) {
            besideOneAnother("boards " + i);
        }
        check.finish();
    }

    private void oneRun(String run, int calls) throws Exception {
        Exactdoubles board = new Exactdoubles();
        Model model = new Model();
        fill(board, model);
        for (int i = 0; i < calls; i++) {
            oneCall(run + " call " + i, board, model);
        }
        check.same(run + ": digest()", board.digest(), model.digest());
    }

    /** No board may see what is done on another one. */
    private void besideOneAnother(String run) throws Exception {
        Exactdoubles[] boards = new Exactdoubles[BOARDS];
        Model[] models = new Model[BOARDS];
        for (int i = 0; i < BOARDS; i++) {
            boards[i] = new Exactdoubles();
            models[i] = new Model();
            fill(boards[i], models[i]);
        }
        for (int i = 0; i < BOARDS * CALLS; i++) {
            int one = random.nextInt(BOARDS);
            oneCall(run + " call " + i + " on " + one, boards[one], models[one]);
        }
        for (int i = 0; i < BOARDS; i++) {
            check.same(run + ": digest() of " + i, boards[i].digest(), models[i].digest());
        }
    }

    private void oneCall(String where, Exactdoubles board, Model model) throws Exception {
        int at = random.nextInt(own.size());
        Object[] arguments = argumentsFor(own.get(at));
        Object got = answer(own.get(at), board, arguments);
        Object want = answer(due.get(at), model, arguments);
        check.same(where + ": " + own.get(at).getName() + Arrays.toString(arguments), got, want);
    }

    /** Numbers near one another and near the edges, for else most questions have dull answers. */
    private void fill(Exactdoubles board, Model model) {
        long base = edge();
        for (int cell = 0; cell < Boards.CELLS; cell++) {
            long bits = random.nextInt(3) == 0 ? edge() : base + random.nextInt(81) - 40;
            check.same("bits", board.bits(cell, (int) (bits >> 32), (int) bits),
                model.bits(cell, (int) (bits >> 32), (int) bits));
        }
    }

    private long edge() {
        long side = random.nextBoolean() ? Long.MIN_VALUE : 0;
        switch (random.nextInt(8)) {
            case 0:
                return side;
            case 1:
                return side | 2047L << 52;
            case 2:
                return side | (long) random.nextInt(2048) << 52;
            case 3:
                return Double.doubleToRawLongBits(Model.SAMPLES[random.nextInt(12)]) | side;
            case 4:
                return Double.doubleToRawLongBits(random.nextInt(41) / 2.0) | side;
            case 5:
                return side | 1023L + random.nextInt(66) << 52 | random.nextLong() >>> 12 & -1L << random.nextInt(52);
            case 6:
                return side | random.nextLong() >>> 12 + random.nextInt(52);
            default:
                return random.nextLong();
        }
    }

    private Object[] argumentsFor(Method method) {
        Class<?>[] types = method.getParameterTypes();
        Object[] arguments = new Object[types.length];
        for (int i = 0; i < types.length; i++) {
            arguments[i] = types[i] == boolean.class ? (Object) random.nextBoolean() : (Object) number(method.getName(), i);
        }
        return arguments;
    }

    private int number(String name, int at) {
        String key = name + at;
        switch (key) {
            case "quarters1":
                return random.nextInt(4) == 0 ? extreme() : random.nextInt(201) - 100;
            case "power1":
                return near(1100);
            case "bits1":
                return (int) (edge() >> 32);
            case "bits2":
                return extreme();
            case "sample1":
                return random.nextInt(14) - 1;
            case "times1":
            case "timesOf1":
            case "isBack1":
                return near(random.nextBoolean() ? 60 : 2200);
            case "walk1":
                return random.nextInt(10) == 0 ? extreme() : random.nextInt(85) - 42;
            case "digits1":
            case "house0":
                return random.nextInt(6) - 1;
            default:
                return random.nextInt(20) == 0 ? (random.nextBoolean() ? extreme() : 6) : random.nextInt(6);
        }
    }

    private int near(int bound) {
        return random.nextInt(20) == 0 ? extreme() : random.nextInt(2 * bound + 3) - bound - 1;
    }

    private int extreme() {
        return random.nextBoolean() ? random.nextInt() : EXTREMES[random.nextInt(EXTREMES.length)];
    }

    private static Object answer(Method method, Object board, Object[] arguments) throws Exception {
        method.setAccessible(true);
        try {
            return method.invoke(board, arguments);
        } catch (InvocationTargetException e) {
            return e.getCause().getClass();
        }
    }
}
