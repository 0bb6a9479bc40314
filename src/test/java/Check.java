/** Compares answers with what is due, and ends a test with exit code 1 if one was wrong. */
final class Check {
    private int made = 0;
    private int wrong = 0;

    interface Call {
        void run();
    }

    void due(String call, long got, long want) {
        made++;
        if (got != want) {
            tell(call + " answered " + got + ", due is " + want);
        }
    }

    void due(String call, boolean got, boolean want) {
        due(call, got ? 1 : 0, want ? 1 : 0);
    }

    void throwsIllegalArgument(String call, Call code) {
        throwsJust(call, code, IllegalArgumentException.class);
    }

    void throwsIndexOutOfBounds(String call, Call code) {
        throwsJust(call, code, IndexOutOfBoundsException.class);
    }

    // The very class: a kind of it, such as the machine's own for arrays, is not what is due.
    private void throwsJust(String call, Call code, Class<?> want) {
        made++;
        String got = "nothing";
        try {
            code.run();
        } catch (RuntimeException e) {
            got = e.getClass().getName();
        }
        if (!got.equals(want.getName())) {
            tell(call + " threw " + got + ", due is " + want.getName());
        }
    }

    void fails(String what) {
        made++;
        tell(what);
    }

    int wrong() {
        return wrong;
    }

    private void tell(String what) {
        wrong++;
        if (wrong <= 20) {
            System.out.println("  " + what);
        }
    }

    void end() {
        System.out.println("  " + made + " answers, " + wrong + " of them not as due");
        if (wrong != 0 || made == 0) {
            System.exit(1);
        }
    }
}
