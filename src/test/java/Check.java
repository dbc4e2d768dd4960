/** What the tests share: compares answers with those that are due, counts the wrong ones, ends with 1 if any. */
final class Check {
    interface Call {
        void make();
    }

    interface CallWith {
        void make(int number);
    }

    private static int wrong = 0;
    private static String sentence = "";

    private Check() {
    }

    /** The sentence of the document that is tested from here on; it is printed before each wrong answer. */
    static void about(String tested) {
        sentence = "[" + tested + "] ";
    }

    static void due(String what, long got, long want) {
        if (got != want) {
            report(what + " answered " + got + ", due is " + want);
        }
    }

    static void due(String what, boolean got, boolean want) {
        due(what, got ? 1 : 0, want ? 1 : 0);
    }

    /** The very class is due: an exception of a class below it would be the machine's own. */
    static void refused(String what, Class<? extends RuntimeException> want, Call call) {
        try {
            call.make();
        } catch (RuntimeException e) {
            if (e.getClass() != want) {
                report(what + " threw " + e.getClass().getName() + ", due is " + want.getName());
            }
            return;
        }
        report(what + " threw nothing, due is " + want.getName());
    }

    /** Each number of a call that is not in low .. high: the next ones, those that a shift would wrap, the ends. */
    static void refusedOutside(String what, int low, int high, Class<? extends RuntimeException> want, CallWith call) {
        int[] outside = {low - 1, high + 1, low - 32, high + 32, low - 256, high + 256, low - 65536, high + 65536,
            Integer.MIN_VALUE, Integer.MAX_VALUE};
        for (int number : outside) {
            refused(what + " with " + number, want, () -> call.make(number));
        }
    }

    static void report(String text) {
        wrong++;
        System.out.println(sentence + text);
    }

    static void end() {
        if (wrong != 0) {
            System.out.println(wrong + " wrong");
            System.exit(1);
        }
    }

    /** Pieces 0 .. n-1 in a row, each linked with the next. */
    static RobotFaults row(int pieces) {
        RobotFaults x = new RobotFaults();
        for (int i = 0; i < pieces; i++) {
            x.piece();
            if (i > 0) {
                x.link(i - 1, i);
            }
        }
        return x;
    }

    /** One piece with so many robots on it. */
    static RobotFaults robots(int robots) {
        RobotFaults x = row(1);
        for (int i = 0; i < robots; i++) {
            x.robot(0);
        }
        return x;
    }

    /** Pieces 0, 1, 2 in a row, and on piece 1 a robot that is as told: 0 GOING, 1 STOPPED, 2 LOST, 3 TOWED. */
    static RobotFaults robotThatIs(int state) {
        RobotFaults x = row(3);
        x.robot(1);
        if (state != 0) {
            x.step(x.fault(0, state == 2 ? 1 : 0), 0);
        }
        if (state == 3) {
            x.tow(0, 1);
        }
        due("state " + state + " to begin with", x.told(0, 0), state);
        return x;
    }

    static void passAll(RobotFaults x, int seconds) {
        int left = seconds;
        while (left > 0) {
            int some = Math.min(left, 1000);
            x.pass(some);
            left -= some;
        }
    }

    /** Comes and is reset, so many times, of a kind that needs one person. */
    static void faultsAndResets(RobotFaults x, int robot, int kind, int times) {
        for (int i = 0; i < times; i++) {
            x.step(x.fault(robot, kind), 0);
        }
    }

    static void told(RobotFaults x, int robot, int... want) {
        for (int what = 0; what < want.length; what++) {
            due("told(" + robot + ", " + what + ")", x.told(robot, what), want[what]);
        }
    }

    static void known(RobotFaults x, int fault, int... want) {
        for (int what = 0; what < want.length; what++) {
            due("known(" + fault + ", " + what + ")", x.known(fault, what), want[what]);
        }
    }

    static void alarm(RobotFaults x, int alarm, int... want) {
        for (int what = 0; what < want.length; what++) {
            due("alarm(" + alarm + ", " + what + ")", x.alarm(alarm, what), want[what]);
        }
    }

    static void counts(RobotFaults x, int... want) {
        for (int what = 0; what < want.length; what++) {
            due("count(" + what + ")", x.count(what), want[what]);
        }
    }

    /** These pieces, upward, and behind them none. */
    static void zone(RobotFaults x, int robot, int... want) {
        for (int i = 0; i < want.length; i++) {
            due("zone(" + robot + ", " + i + ")", x.zone(robot, i), want[i]);
        }
        due("zone(" + robot + ", end)", x.zone(robot, want.length), -1);
        due("zone(" + robot + ", max)", x.zone(robot, Integer.MAX_VALUE), -1);
    }
}
