import java.util.NoSuchElementException;

/** What the tests share: counts what is not as due, and tells an exception by its name. */
final class Check {
    static final String OUT = "IndexOutOfBoundsException";
    static final String NONE = "NoSuchElementException";
    static final String ARGUMENT = "IllegalArgumentException";
    static final String STATE = "IllegalStateException";

    private static int wrong = 0;
    private static int checks = 0;

    private Check() {
    }

    /** A call whose answer is told as a text. */
    interface Call {
        Object run();
    }

    /** The answer of a call, or the name of the exception that it throws. */
    static String answer(Call call) {
        try {
            return String.valueOf(call.run());
        } catch (IndexOutOfBoundsException | NoSuchElementException e) {
            return e.getClass().getSimpleName();
        } catch (IllegalArgumentException | IllegalStateException e) {
            return e.getClass().getSimpleName();
        }
    }

    static void due(String what, Object want, Call call) {
        checks++;
        String got = answer(call);
        if (!got.equals(String.valueOf(want))) {
            wrong++;
            if (wrong <= 50) {
                System.out.println(what + ": answered " + got + ", due is " + want);
            }
        }
    }

    static void same(String what, Object want, Object got) {
        due(what, want, () -> got);
    }

    static void end(String test) {
        System.out.println(test + ": " + checks + " checks, " + wrong + " not as due");
        if (wrong != 0) {
            System.exit(1);
        }
    }
}
