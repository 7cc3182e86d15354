/** Counts what is as due and tells what is not. */
final class Check {
    private static int passed;
    private static int failed;

    private Check() {
    }

    static void same(String what, long got, long due) {
        tell(got == due, what, String.valueOf(got), String.valueOf(due));
    }

    static void sameDouble(String what, double got, double due) {
        tell(got == due, what, String.valueOf(got), String.valueOf(due));
    }

    static void yes(String what, boolean got) {
        tell(got, what, "false", "true");
    }

    static void no(String what, boolean got) {
        tell(!got, what, "true", "false");
    }

    /**
     * A call that throws, behind which nothing of the object has changed. The class is compared exactly, as what the
     * machine throws is of a class below.
     */
    static void refuses(String what, Class<? extends RuntimeException> due, Prioritywave object, Runnable call) {
        long before = State.of(object);
        String got = "nothing";
        try {
            call.run();
        } catch (RuntimeException thrown) {
            got = thrown.getClass().getName();
        }
        tell(got.equals(due.getName()), what, "throws " + got, "throws " + due.getName());
        tell(State.of(object) == before, what + ", refused", "another state", "nothing changed");
    }

    static void tell(boolean isDue, String what, String got, String due) {
        if (isDue) {
            passed++;
        } else {
            failed++;
            System.out.println(what + " answered " + got + ", due is " + due);
        }
    }

    static int passed() {
        return passed;
    }

    static int failed() {
        return failed;
    }
}
