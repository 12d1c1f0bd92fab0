/** Compares answers with those that are due, and counts. */
final class Check {
    /** A call that may throw. */
    interface Call {
        long answer();
    }

    private int good;
    private int wrong;
    private String part = "";

    void part(String name) {
        part = name;
    }

    void same(String what, long got, long due) {
        count(got == due, what + " answered " + got + ", due is " + due);
    }

    void same(String what, double got, double due) {
        count(got == due, what + " answered " + got + ", due is " + due);
    }

    void that(String what, boolean holds) {
        count(holds, what);
    }

    /** The call must throw exactly this, and change nothing that one can ask. */
    void refused(WakeBanks sea, Class<? extends RuntimeException> due, Call... calls) {
        for (int i = 0; i < calls.length; i++) {
            String before = Picture.of(sea);
            Class<?> got = null;
            long answer = 0;
            try {
                answer = calls[i].answer();
            } catch (RuntimeException e) {
                got = e.getClass();
            }
            String what = due.getSimpleName() + " of call " + i;
            count(got == due, what + ": " + (got == null ? "answered " + answer : got.getName()));
            count(before.equals(Picture.of(sea)), what + ": it changed something");
        }
    }

    /** Ends the test: exit code 1 if an answer was wrong. */
    void end(String test) {
        System.out.println(test + ": " + good + " checks hold, " + wrong + " do not");
        if (wrong > 0) {
            System.exit(1);
        }
    }

    private void count(boolean holds, String what) {
        if (holds) {
            good++;
        } else {
            wrong++;
            System.out.println("  " + part + ": " + what);
        }
    }
}
