/** Counts the checks of a test program and tells those that fail. */
final class Check {
    interface Call {
        long on(SunsetDates x);
    }

    private final String name;
    private int passed = 0;
    private int failed = 0;

    Check(String name) {
        this.name = name;
    }

    void equal(String what, long got, long due) {
        tell(got == due, what + " answered " + got + ", due is " + due);
    }

    void equal(String what, double got, double due) {
        tell(Double.compare(got, due) == 0, what + " answered " + got + ", due is " + due);
    }

    void equal(String what, String got, String due) {
        tell(got.equals(due), what + " answered " + got + ", due is " + due);
    }

    /** The call must throw exactly this class, and leave all that the digest tells of as it was. */
    void refused(String what, Class<? extends RuntimeException> due, SunsetDates x, Call call) {
        long before = x.digest();
        String got = "no exception";
        try {
            call.on(x);
        } catch (RuntimeException e) {
            got = e.getClass().getName();
        }
        equal(what, got, due.getName());
        equal("the digest after " + what, x.digest(), before);
    }

    void finish() {
        System.out.println(name + ": " + passed + " passed, " + failed + " failed");
        if (failed != 0) {
            System.exit(1);
        }
    }

    private void tell(boolean right, String what) {
        if (right) {
            passed++;
            return;
        }
        failed++;
        if (failed <= 20) {
            System.out.println(name + ": " + what);
        }
    }

    /** The answers about all versions, features, users and shims, and about some days. */
    static String state(SunsetDates x) {
        StringBuilder state = new StringBuilder();
        for (int what = 0; what <= 7; what++) {
            state.append(x.value(what)).append(' ');
        }
        for (int version = 0; version < x.value(0); version++) {
            for (int what = 0; what <= 4; what++) {
                state.append(x.version(version, what)).append(' ');
            }
        }
        for (int user = 0; user < x.value(2); user++) {
            for (int what = 0; what <= 5; what++) {
                state.append(x.user(user, what)).append(' ');
            }
        }
        for (int shim = 0; shim < x.value(3); shim++) {
            for (int what = 0; what <= 4; what++) {
                state.append(x.shim(shim, what)).append(' ');
            }
        }
        return state.append(x.costs(0, 999)).toString();
    }

    /** Undoes all that can be undone. */
    static int savedStates(SunsetDates x) {
        int states = 0;
        while (true) {
            try {
                x.undo();
            } catch (IllegalStateException e) {
                return states;
            }
            states++;
        }
    }

    static int write(SunsetDates x, String text) {
        int length = 0;
        for (int i = 0; i < text.length(); i++) {
            length = x.append(text.charAt(i));
        }
        return length;
    }

    static int carryOut(SunsetDates x, String text) {
        x.clearText();
        write(x, text);
        return x.carryOut();
    }
}
