/** Counts the answers that are not as due; each test ends by finish(). */
final class Check {
    private static int wrong = 0;
    private static int checked = 0;

    private Check() {
    }

    static void due(String call, long got, long want) {
        checked++;
        if (got != want) {
            wrong++;
            System.out.println(call + " answered " + got + ", due is " + want);
        }
    }

    static void dueThat(String what, boolean holds) {
        checked++;
        if (!holds) {
            wrong++;
            System.out.println("not so: " + what);
        }
    }

    static void dueIllegalArgument(String call, Runnable run) {
        String thrown = "nothing";
        try {
            run.run();
        } catch (RuntimeException e) {
            thrown = e.getClass().getSimpleName();
        }
        dueThat(call + " throws IllegalArgumentException, not " + thrown,
                thrown.equals("IllegalArgumentException"));
    }

    static void finish() {
        System.out.println(checked + " checked, " + wrong + " wrong");
        if (wrong != 0 || checked == 0) {
            System.exit(1);
        }
    }
}
