/** Promises 8 (fault), 9 (step), 19 (known). */
public final class FaultTest {
    public static void main(String[] args) {
        faultsAreNumberedAndKnown();
        anOpenFaultAnswersLessItsNumber();
        aLostLoadIsLost();
        faultsStop();
        onePersonResets();
        twoPersonsReset();
        Check.end();
    }

    private static void faultsAreNumberedAndKnown() {
        RobotFaults x = Check.row(3);
        x.robot(0);
        x.robot(2);
        x.pass(5);
        Check.due("fault(1, 6)", x.fault(1, 6), 1);
        x.pass(3);
        Check.due("fault(0, 6)", x.fault(0, 6), 2);
        x.tow(0, 1);
        Check.known(x, 1, 1, 6, 5, -1, 0, 0, 0, 2, -1);
        Check.known(x, 2, 0, 6, 8, -1, 1, 0, 0, 0, -1);
    }

    private static void anOpenFaultAnswersLessItsNumber() {
        RobotFaults x = Check.robots(2);
        x.fault(1, 5);
        x.fault(0, 5);
        x.acknowledge(1, 3);
        x.rule(5, 1, true, 1);
        x.pass(10);
        Check.due("fault(0, 5) again", x.fault(0, 5), -2);
        Check.due("fault(1, 5) again", x.fault(1, 5), -1);
        Check.due("faults", x.count(2), 2);
        Check.due("faults of the alarm", x.alarm(1, 4), 1);
        Check.due("still acknowledged", x.alarm(1, 5), 3);
        Check.due("second that joined last", x.alarm(1, 6), 0);
        Check.due("no test wanted by it", x.told(0, 4), 0);
        x.step(2, 0);
        Check.due("fault(0, 5) after the reset", x.fault(0, 5), 3);
    }

    private static void aLostLoadIsLost() {
        RobotFaults x = Check.row(2);
        x.robot(1);
        x.load(0, 0);
        Check.due("fault(0, 2)", x.fault(0, 2), 1);
        Check.known(x, 1, 0, 2, 0, -1, 0, 0, 0, 1, 0);
        Check.due("unit then", x.told(0, 2), -1);
        Check.refused("fault(0, 2), open, but no unit", IllegalStateException.class, () -> x.fault(0, 2));
        x.load(0, 99);
        Check.due("fault(0, 2), open, with a unit", x.fault(0, 2), -1);
        Check.due("nothing is lost by it", x.told(0, 2), 99);
        x.fault(0, 3);
        Check.due("another kind loses none", x.told(0, 2), 99);
        Check.due("another kind's lost unit", x.known(2, 8), -1);
        x.fault(0, 1);
        x.step(1, 0);
        Check.due("a lost robot loses its load", x.fault(0, 2), 4);
        Check.due("which", x.known(4, 8), 99);
        Check.due("its state", x.told(0, 0), 2);
    }

    private static void faultsStop() {
        RobotFaults x = Check.robots(1);
        x.fault(0, 0);
        Check.due("stopped", x.told(0, 0), 1);
        x.fault(0, 3);
        Check.due("still stopped", x.told(0, 0), 1);
        x.tow(0, 0);
        x.fault(0, 4);
        Check.due("still towed", x.told(0, 0), 3);
        x.fault(0, 1);
        Check.due("lost, though towed", x.told(0, 0), 2);
        x.fault(0, 5);
        Check.due("still lost", x.told(0, 0), 2);
        RobotFaults y = Check.robots(2);
        y.fault(0, 1);
        Check.due("lost, though going", y.told(0, 0), 2);
        y.fault(1, 0);
        y.fault(1, 1);
        Check.due("lost, though stopped", y.told(1, 0), 2);
    }

    private static void onePersonResets() {
        RobotFaults x = Check.robots(1);
        x.fault(0, 0);
        x.pass(12);
        Check.due("step(1, 7)", x.step(1, 7), 1);
        Check.known(x, 1, 0, 0, 0, 12, 0, 128, 0, 0, -1);
        Check.due("still stopped", x.told(0, 0), 1);
        x.pass(5);
        Check.due("reset second stays", x.known(1, 3), 12);
    }

    private static void twoPersonsReset() {
        RobotFaults x = Check.robots(1);
        x.rule(0, 2, false, 3);
        x.fault(0, 0);
        Check.due("step(1, 0)", x.step(1, 0), 0);
        Check.due("step(1, 0) again", x.step(1, 0), 2);
        Check.due("steps", x.known(1, 5), 1);
        Check.due("open", x.known(1, 3), -1);
        x.pass(1);
        Check.due("step(1, 7)", x.step(1, 7), 1);
        Check.due("steps then", x.known(1, 5), 129);
        Check.due("reset", x.known(1, 3), 1);
    }
}
