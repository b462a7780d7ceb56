import java.util.Objects;

/** Counts and prints the answers that are not as due. */
final class Check {
    interface Call {
        void on(Exactdoubles board);
    }

    private final String name;
    private int done;
    private int wrong;

    Check(String name) {
        this.name = name;
    }

    void same(String what, Object got, Object due) {
        done++;
        if (!Objects.equals(got, due)) {
            wrong++;
            System.out.println(name + ": " + what + " answered " + got + ", due is " + due);
        }
    }

    void isTrue(String what, boolean holds) {
        same(what, holds, true);
    }

    /** The call throws an exception of just this class (a subclass would come from the machine), and changes nothing. */
    void refuses(String what, Class<? extends RuntimeException> due, Exactdoubles board, Call call) {
        long before = board.digest();
        Class<?> thrown = null;
        try {
            call.on(board);
        } catch (RuntimeException e) {
            thrown = e.getClass();
        }
        same(what + " throws", thrown, due);
        same(what + " leaves the digest", board.digest(), before);
    }

    void finish() {
        System.out.println(name + ": " + done + " checks, " + wrong + " wrong");
        if (wrong != 0) {
            System.exit(1);
        }
    }
}
