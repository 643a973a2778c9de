/** Counts the calls whose answer is not the one that is due, and tells each. */
final class Checks {
    interface Call {
        Object run();
    }

    private int made = 0;
    private int wrong = 0;

    void due(String name, Object want, Object got) {
        made++;
        if (!want.equals(got)) {
            wrong++;
            System.out.println(name + " answered " + got + ", due is " + want);
        }
    }

    /** The exception must be of just this class, and come from a throw statement of Threetwo itself. */
    void dueThrow(String name, Class<? extends RuntimeException> want, Call call) {
        String got;
        try {
            got = "the answer " + call.run();
        } catch (RuntimeException e) {
            StackTraceElement[] trace = e.getStackTrace();
            boolean own = trace.length > 0 && trace[0].getClassName().startsWith("Threetwo");
            got = e.getClass().getName() + (own ? "" : " of the machine");
        }
        due(name, want.getName(), got);
    }

    /** No exception of any kind. */
    void dueAnswer(String name, Call call) {
        String got = "an answer";
        try {
            call.run();
        } catch (RuntimeException e) {
            got = e.getClass().getName();
        }
        due(name, "an answer", got);
    }

    void dueIndex(String name, Call call) {
        dueThrow(name, IndexOutOfBoundsException.class, call);
    }

    void dueArgument(String name, Call call) {
        dueThrow(name, IllegalArgumentException.class, call);
    }

    void dueState(String name, Call call) {
        dueThrow(name, IllegalStateException.class, call);
    }

    void end() {
        System.out.println(made + " checks, " + wrong + " wrong");
        System.exit(wrong == 0 && made > 0 ? 0 : 1);
    }
}
