/** Promises 10 (test), 11 (resume), 14 (tow). */
public final class ResumeTest {
    public static void main(String[] args) {
        aBadTestAsksForAnother();
        aGoodTestIsEnough();
        aTestIsWantedTillAGoodOne();
        whyItDoesNotResume();
        towing();
        Check.end();
    }

    private static void aBadTestAsksForAnother() {
        RobotFaults x = Check.robots(1);
        Check.faultsAndResets(x, 0, 0, 1);
        Check.due("bad test", x.test(0, false), false);
        Check.due("wants a test, whatever was", x.told(0, 4), 1);
        Check.due("resume", x.resume(0), -3);
        Check.due("good test", x.test(0, true), true);
        Check.due("wants none", x.told(0, 4), 0);
        Check.due("resume then", x.resume(0), 1);
    }

    private static void aGoodTestIsEnough() {
        RobotFaults x = Check.robots(1);
        x.rule(0, 1, true, 3);
        Check.faultsAndResets(x, 0, 0, 1);
        Check.due("the reset leaves the test", x.told(0, 4), 1);
        x.tow(0, 0);
        Check.due("good test of a towed one", x.test(0, true), true);
        Check.due("resume", x.resume(0), 1);
    }

    private static void aTestIsWantedTillAGoodOne() {
        RobotFaults x = Check.robots(1);
        x.rule(0, 1, true, 3);
        x.fault(0, 0);
        Check.due("from the fault on", x.told(0, 4), 1);
        x.fault(0, 3);
        x.step(1, 0);
        x.step(2, 0);
        Check.due("a fault that asks for none leaves it", x.told(0, 4), 1);
        x.test(0, true);
        x.fault(0, 3);
        Check.due("and brings none", x.told(0, 4), 0);
    }

    private static void whyItDoesNotResume() {
        RobotFaults x = Check.robots(2);
        x.rule(1, 1, true, 3);
        x.fault(0, 1);
        x.fault(0, 0);
        x.fault(1, 0);
        Check.due("open, lost, test", x.resume(0), -1);
        x.step(1, 0);
        Check.due("one still open", x.resume(0), -1);
        x.step(2, 0);
        Check.due("lost, test", x.resume(0), -2);
        Check.due("still lost", x.told(0, 0), 2);
        x.found(0, 0);
        Check.due("test", x.resume(0), -3);
        Check.due("still stopped", x.told(0, 0), 1);
        x.test(0, true);
        Check.due("nothing, whatever the other has", x.resume(0), 1);
        Check.due("the other", x.resume(1), -1);
    }

    private static void towing() {
        RobotFaults x = Check.row(4);
        x.robot(0);
        x.fault(0, 0);
        x.tow(0, 3);
        Check.due("towed", x.told(0, 0), 3);
        Check.due("to a piece that is not linked", x.told(0, 1), 3);
        x.tow(0, 3);
        x.tow(0, 1);
        Check.due("towed on", x.told(0, 1), 1);
        Check.due("its fault stays", x.resume(0), -1);
        x.step(1, 0);
        Check.due("still towed", x.told(0, 0), 3);
        Check.due("resumes", x.resume(0), 1);
        x.move(0, 2);
        Check.due("goes on from there", x.told(0, 1), 2);
    }
}
