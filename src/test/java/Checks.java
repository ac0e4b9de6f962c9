/** Counts what a test asks, tells what is not as due, and ends the test's program. */
final class Checks {
    interface Call {
        Object answer();
    }

    private final String test;
    private int promise;
    private int passed;
    private int failed;

    Checks(String test) {
        this.test = test;
    }

    void promise(int number) {
        promise = number;
    }

    void due(Object want, Call call, String what) {
        Object got;
        try {
            got = call.answer();
        } catch (RuntimeException thrown) {
            got = thrown.getClass();
        }
        same(want, got, what);
    }

    void fails(Class<? extends RuntimeException> want, Call call, String what) {
        due(want, call, what);
    }

    void holds(boolean isSo, String what) {
        same(true, isSo, what);
    }

    private void same(Object want, Object got, String what) {
        if (want.equals(got)) {
            passed++;
            return;
        }
        failed++;
        String where = promise > 0 ? test + ", promise " + promise : test;
        System.out.println(where + ": " + what + ": due is " + want + ", but it is " + got);
    }

    void end() {
        System.out.println(passed + " passed, " + failed + " failed");
        if (failed > 0 || passed == 0) {
            System.exit(1);
        }
    }
}
