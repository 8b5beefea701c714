/** What the tests share: counted comparisons, and calls that must be refused. */
final class Check {
    interface Call {
        double answer();
    }

    private static int wrong = 0;
    private static int compared = 0;

    private Check() {
    }

    static void equal(String what, long got, long due) {
        compared++;
        if (got != due) {
            fail(what + " answered " + got + ", due is " + due);
        }
    }

    static void equal(String what, double got, double due) {
        compared++;
        if (Double.doubleToLongBits(got) != Double.doubleToLongBits(due)) {
            fail(what + " answered " + got + ", due is " + due);
        }
    }

    static void equal(String what, String got, String due) {
        compared++;
        if (!got.equals(due)) {
            fail(what + " answered " + got + ", due is " + due);
        }
    }

    static void fail(String message) {
        wrong++;
        if (wrong <= 40) {
            System.out.println(message);
        }
    }

    /** The call must throw just this exception, and the desk must be as it was before. */
    static void refused(String what, MemoryDesk desk, Class<?> due, Call call) {
        long before = desk.digest();
        equal(what, thrownBy(call), due.getSimpleName());
        equal(what + ": the digest behind it", desk.digest(), before);
    }

    static String thrownBy(Call call) {
        try {
            return "the answer " + call.answer();
        } catch (RuntimeException e) {
            return e.getClass().getSimpleName();
        }
    }

    static void end(String test) {
        System.out.println(test + ": " + compared + " comparisons, " + wrong + " wrong");
        if (wrong != 0 || compared == 0) {
            System.exit(1);
        }
    }
}
