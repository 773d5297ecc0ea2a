/** Counts what a test program checked, tells what was wrong, and ends the program. */
final class Check {
    private static int checked = 0;
    private static int wrong = 0;

    private Check() {
    }

    static void same(String what, long got, long due) {
        checked++;
        if (got != due) {
            wrong++;
            System.out.println(what + " answered " + got + ", due is " + due);
        }
    }

    static void yes(String what, boolean got) {
        same(what, got ? 1 : 0, 1);
    }

    static void no(String what, boolean got) {
        same(what, got ? 1 : 0, 0);
    }

    static void throwing(String what, Class<? extends RuntimeException> due, Runnable call) {
        checked++;
        try {
            call.run();
        } catch (RuntimeException thrown) {
            if (thrown.getClass() != due) {
                wrong++;
                System.out.println(what + " threw " + thrown + ", due is " + due.getName());
            }
            return;
        }
        wrong++;
        System.out.println(what + " threw nothing, due is " + due.getName());
    }

    /** The call throws, and nothing that can be seen of the pair is another than before. */
    static void refused(String what, Class<? extends RuntimeException> due, SecurePair pair, Runnable call) {
        String before = Pairs.view(pair);
        throwing(what, due, call);
        unchanged(what, pair, before);
    }

    static void unchanged(String what, SecurePair pair, String before) {
        checked++;
        String after = Pairs.view(pair);
        if (!after.equals(before)) {
            wrong++;
            System.out.println(what + " changed\n  " + before + "\nto\n  " + after);
        }
    }

    static void end() {
        System.out.println(checked + " checks, " + wrong + " wrong");
        if (wrong != 0 || checked == 0) {
            System.exit(1);
        }
    }
}
