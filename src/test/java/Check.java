import java.lang.reflect.InvocationTargetException;
import java.lang.reflect.Method;
import java.lang.reflect.Modifier;
import java.util.Arrays;
import java.util.Comparator;
import java.util.List;
import java.util.Objects;

/** Counts and prints the answers that are not as due. */
final class Check {
    interface Call {
        void on(Exactdoubles board);
    }

    private final String name;
    private int done;
    private int wrong;

    Check(String name) {
        this.name = name;
    }

    void same(String what, Object got, Object due) {
        done++;
        if (!Objects.equals(got, due)) {
            wrong++;
            System.out.println(name + ": " + what + " answered " + got + ", due is " + due);
        }
    }

    void isTrue(String what, boolean holds) {
        same(what, holds, true);
    }

    /** The call throws an exception of just this class (a subclass would come from the machine), and changes nothing. */
    void refuses(String what, Class<? extends RuntimeException> due, Exactdoubles board, Call call) {
        List<Object> before = Boards.answers(board);
        Class<?> thrown = null;
        try {
            call.on(board);
        } catch (RuntimeException e) {
            thrown = e.getClass();
        }
        same(what + " throws", thrown, due);
        same(what + " changes nothing", Boards.answers(board), before);
    }

    /** Runs each test that an object has: its methods that take nothing and are not private; tells how many. */
    int runTests(Object tests) throws IllegalAccessException {
        Method[] methods = tests.getClass().getDeclaredMethods();
        Arrays.sort(methods, Comparator.comparing(Method::getName));
        int ran = 0;
        for (Method method : methods) {
            int kind = method.getModifiers();
            if (Modifier.isPrivate(kind) || Modifier.isStatic(kind) || method.getParameterCount() != 0) {
                continue;
            }
            ran++;
            try {
                method.invoke(tests);
            } catch (InvocationTargetException e) {
                same(method.getName(), e.getCause(), "no exception");
            }
        }
        isTrue("there are tests", ran > 0);
        return ran;
    }

    void finish() {
        System.out.println(name + ": " + done + " checks, " + wrong + " wrong");
        if (wrong != 0) {
            System.exit(1);
        }
    }
}
