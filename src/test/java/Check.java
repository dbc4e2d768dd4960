/** What the tests share: compares answers with those that are due, counts the wrong ones, ends with 1 if any. */
final class Check {
    interface Call {
        void make();
    }

    private static int wrong = 0;

    private Check() {
    }

    static void due(String what, long got, long want) {
        if (got != want) {
            report(what + " answered " + got + ", due is " + want);
        }
    }

    static void due(String what, boolean got, boolean want) {
        due(what, got ? 1 : 0, want ? 1 : 0);
    }

    /** The very class is due: an exception of a class below it would be the machine's own. */
    static void refused(String what, Class<? extends RuntimeException> want, Call call) {
        try {
            call.make();
        } catch (RuntimeException e) {
            if (e.getClass() != want) {
                report(what + " threw " + e.getClass().getName() + ", due is " + want.getName());
            }
            return;
        }
        report(what + " threw nothing, due is " + want.getName());
    }

    static void report(String text) {
        wrong++;
        System.out.println(text);
    }

    static void end() {
        if (wrong != 0) {
            System.out.println(wrong + " wrong");
            System.exit(1);
        }
    }

    /** Pieces 0 .. n-1 in a row, each linked with the next. */
    static RobotFaults row(int pieces) {
        RobotFaults x = new RobotFaults();
        for (int i = 0; i < pieces; i++) {
            x.piece();
            if (i > 0) {
                x.link(i - 1, i);
            }
        }
        return x;
    }

    /** One piece with so many robots on it. */
    static RobotFaults robots(int robots) {
        RobotFaults x = row(1);
        for (int i = 0; i < robots; i++) {
            x.robot(0);
        }
        return x;
    }

    static void passAll(RobotFaults x, int seconds) {
        int left = seconds;
        while (left > 0) {
            int some = Math.min(left, 1000);
            x.pass(some);
            left -= some;
        }
    }

    /** Comes and is reset, so many times, of a kind that needs one person. */
    static void faultsAndResets(RobotFaults x, int robot, int kind, int times) {
        for (int i = 0; i < times; i++) {
            x.step(x.fault(robot, kind), 0);
        }
    }
}
