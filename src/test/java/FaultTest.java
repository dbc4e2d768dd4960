import java.util.NoSuchElementException;

/** Promises 8 (fault), 9 (step), 19 (known). */
public final class FaultTest {
    public static void main(String[] args) {
        faultsAreNumberedAndKnown();
        faultsAreRefused();
        anOpenFaultAnswersLessItsNumber();
        aLostLoadIsLost();
        faultsStop();
        fortyFaultsAreAll();
        onePersonResets();
        twoPersonsReset();
        stepsAreRefused();
        knownIsRefused();
        Check.end();
    }

    private static void known(RobotFaults x, int fault, int... want) {
        for (int what = 0; what < want.length; what++) {
            Check.due("known(" + fault + ", " + what + ")", x.known(fault, what), want[what]);
        }
    }

    private static void faultsAreNumberedAndKnown() {
        RobotFaults x = Check.row(3);
        x.robot(0);
        x.robot(2);
        x.pass(5);
        Check.due("fault(1, 6)", x.fault(1, 6), 1);
        x.pass(3);
        Check.due("fault(0, 6)", x.fault(0, 6), 2);
        x.tow(0, 1);
        known(x, 1, 1, 6, 5, -1, 0, 0, 0, 2, -1);
        known(x, 2, 0, 6, 8, -1, 1, 0, 0, 0, -1);
    }

    private static void faultsAreRefused() {
        RobotFaults x = Check.robots(1);
        Check.refused("fault(1, 0)", NoSuchElementException.class, () -> x.fault(1, 0));
        Check.refused("fault(-1, 0)", NoSuchElementException.class, () -> x.fault(-1, 0));
        Check.refused("fault(1, 8)", NoSuchElementException.class, () -> x.fault(1, 8));
        Check.refused("fault(0, 8)", IllegalArgumentException.class, () -> x.fault(0, 8));
        Check.refused("fault(0, -1)", IllegalArgumentException.class, () -> x.fault(0, -1));
        Check.refused("fault(0, 2) with no unit", IllegalStateException.class, () -> x.fault(0, 2));
        Check.due("faults after refusals", x.count(2), 0);
        Check.due("alarms after refusals", x.count(4), 0);
        Check.due("state after refusals", x.told(0, 0), 0);
    }

    private static void anOpenFaultAnswersLessItsNumber() {
        RobotFaults x = Check.robots(2);
        x.fault(1, 5);
        x.fault(0, 5);
        x.acknowledge(1, 3);
        x.rule(5, 1, true, 1);
        x.pass(10);
        Check.due("fault(0, 5) again", x.fault(0, 5), -2);
        Check.due("fault(1, 5) again", x.fault(1, 5), -1);
        Check.due("faults", x.count(2), 2);
        Check.due("faults of the alarm", x.alarm(1, 4), 1);
        Check.due("still acknowledged", x.alarm(1, 5), 3);
        Check.due("second that joined last", x.alarm(1, 6), 0);
        Check.due("no test wanted by it", x.told(0, 4), 0);
        x.step(2, 0);
        Check.due("fault(0, 5) after the reset", x.fault(0, 5), 3);
    }

    private static void aLostLoadIsLost() {
        RobotFaults x = Check.row(2);
        x.robot(1);
        x.load(0, 0);
        Check.due("fault(0, 2)", x.fault(0, 2), 1);
        known(x, 1, 0, 2, 0, -1, 0, 0, 0, 1, 0);
        Check.due("unit then", x.told(0, 2), -1);
        Check.refused("fault(0, 2), open, but no unit", IllegalStateException.class, () -> x.fault(0, 2));
        x.load(0, 99);
        Check.due("fault(0, 2), open, with a unit", x.fault(0, 2), -1);
        Check.due("nothing is lost by it", x.told(0, 2), 99);
        x.fault(0, 3);
        Check.due("another kind loses none", x.told(0, 2), 99);
        Check.due("another kind's lost unit", x.known(2, 8), -1);
        x.fault(0, 1);
        x.step(1, 0);
        Check.due("a lost robot loses its load", x.fault(0, 2), 4);
        Check.due("which", x.known(4, 8), 99);
        Check.due("its state", x.told(0, 0), 2);
    }

    private static void faultsStop() {
        RobotFaults x = Check.robots(1);
        x.fault(0, 0);
        Check.due("stopped", x.told(0, 0), 1);
        x.fault(0, 3);
        Check.due("still stopped", x.told(0, 0), 1);
        x.tow(0, 0);
        x.fault(0, 4);
        Check.due("still towed", x.told(0, 0), 3);
        x.fault(0, 1);
        Check.due("lost, though towed", x.told(0, 0), 2);
        x.fault(0, 5);
        Check.due("still lost", x.told(0, 0), 2);
        RobotFaults y = Check.robots(2);
        y.fault(0, 1);
        Check.due("lost, though going", y.told(0, 0), 2);
        y.fault(1, 0);
        y.fault(1, 1);
        Check.due("lost, though stopped", y.told(1, 0), 2);
    }

    private static void fortyFaultsAreAll() {
        RobotFaults x = Check.robots(2);
        Check.faultsAndResets(x, 0, 0, 39);
        Check.due("fault 40", x.fault(0, 3), 40);
        Check.refused("fault 41", UnsupportedOperationException.class, () -> x.fault(1, 0));
        Check.refused("the open one again, no room", UnsupportedOperationException.class, () -> x.fault(0, 3));
        Check.refused("no unit comes before no room", IllegalStateException.class, () -> x.fault(0, 2));
        Check.refused("a wrong kind comes before no room", IllegalArgumentException.class, () -> x.fault(0, 8));
        Check.refused("no robot comes before no room", NoSuchElementException.class, () -> x.fault(2, 0));
        Check.due("faults", x.count(2), 40);
        Check.due("the other one goes on", x.told(1, 0), 0);
        Check.due("known(40, 1)", x.known(40, 1), 3);
    }

    private static void onePersonResets() {
        RobotFaults x = Check.robots(1);
        x.fault(0, 0);
        x.pass(12);
        Check.due("step(1, 7)", x.step(1, 7), 1);
        known(x, 1, 0, 0, 0, 12, 0, 128, 0, 0, -1);
        Check.due("still stopped", x.told(0, 0), 1);
        x.pass(5);
        Check.due("reset second stays", x.known(1, 3), 12);
    }

    private static void twoPersonsReset() {
        RobotFaults x = Check.robots(1);
        x.rule(0, 2, false, 3);
        x.fault(0, 0);
        Check.due("step(1, 0)", x.step(1, 0), 0);
        Check.due("step(1, 0) again", x.step(1, 0), 2);
        Check.due("steps", x.known(1, 5), 1);
        Check.due("open", x.known(1, 3), -1);
        x.pass(1);
        Check.due("step(1, 7)", x.step(1, 7), 1);
        Check.due("steps then", x.known(1, 5), 129);
        Check.due("reset", x.known(1, 3), 1);
    }

    private static void stepsAreRefused() {
        RobotFaults x = Check.robots(1);
        x.fault(0, 0);
        Check.refused("step(0, 0)", NoSuchElementException.class, () -> x.step(0, 0));
        Check.refused("step(2, 0)", NoSuchElementException.class, () -> x.step(2, 0));
        Check.refused("step(-1, 0)", NoSuchElementException.class, () -> x.step(-1, 0));
        Check.refused("step(41, 8)", NoSuchElementException.class, () -> x.step(41, 8));
        Check.refused("step(1, 8)", IllegalArgumentException.class, () -> x.step(1, 8));
        Check.refused("step(1, -1)", IllegalArgumentException.class, () -> x.step(1, -1));
        Check.due("steps after refusals", x.known(1, 5), 0);
        x.step(1, 0);
        Check.refused("step of a reset one", IllegalStateException.class, () -> x.step(1, 0));
        Check.refused("by another", IllegalStateException.class, () -> x.step(1, 1));
        Check.refused("a wrong person comes first", IllegalArgumentException.class, () -> x.step(1, 8));
        Check.due("steps then", x.known(1, 5), 1);
    }

    private static void knownIsRefused() {
        RobotFaults x = Check.robots(1);
        x.fault(0, 0);
        Check.refused("known(0, 0)", NoSuchElementException.class, () -> x.known(0, 0));
        Check.refused("known(2, 0)", NoSuchElementException.class, () -> x.known(2, 0));
        Check.refused("known(2, 9)", NoSuchElementException.class, () -> x.known(2, 9));
        Check.refused("known(41, 0)", NoSuchElementException.class, () -> x.known(41, 0));
        Check.refused("known(-1, 0)", NoSuchElementException.class, () -> x.known(-1, 0));
        Check.refused("known(min, 0)", NoSuchElementException.class, () -> x.known(Integer.MIN_VALUE, 0));
        Check.refused("known(1, 9)", IllegalArgumentException.class, () -> x.known(1, 9));
        Check.refused("known(1, -1)", IllegalArgumentException.class, () -> x.known(1, -1));
    }
}
