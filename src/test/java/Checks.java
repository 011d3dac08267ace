/** What the tests share: they tell every answer that is not due and end with 1 if there was one. */
final class Checks {
    /** A call of the face with an answer, a boolean counted as 1 or 0. */
    interface Call {
        long run();
    }

    /** A call of the face without an answer. */
    interface Act {
        void run();
    }

    private int checked = 0;
    private int wrong = 0;

    void due(String call, long got, long want) {
        checked++;
        if (got != want) {
            tell(call + " answered " + got + ", due is " + want);
        }
    }

    void holds(String what, boolean is) {
        checked++;
        if (!is) {
            tell(what + " does not hold");
        }
    }

    void illegal(String call, Act act) {
        throwsDue(call, act, IllegalArgumentException.class);
    }

    void outside(String call, Act act) {
        throwsDue(call, act, IndexOutOfBoundsException.class);
    }

    /** The exact class is asked for: a class below the due one comes from the machine, not from a throw. */
    private void throwsDue(String call, Act act, Class<?> want) {
        checked++;
        Class<?> got = thrown(act);
        if (got != want) {
            tell(call + " threw " + (got == null ? "nothing" : got.getName()) + ", due is " + want.getName());
        }
    }

    static Class<?> thrown(Act act) {
        try {
            act.run();
            return null;
        } catch (RuntimeException e) {
            return e.getClass();
        }
    }

    void end() {
        System.out.println(wrong == 0 ? "all " + checked + " answers are as due"
                : wrong + " of " + checked + " answers are not as due");
        if (wrong != 0) {
            System.exit(1);
        }
    }

    private void tell(String what) {
        wrong++;
        if (wrong <= 50) {
            System.out.println(what);
        }
    }
}
