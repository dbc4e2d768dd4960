/** Promise 1. */
public final class NewObjectTest {
    public static void main(String[] args) {
        objectsAreApart();
        Check.end();
    }

    private static void objectsAreApart() {
        RobotFaults x = Check.robots(1);
        RobotFaults y = new RobotFaults();
        x.rule(0, 2, true, 1);
        x.pass(7);
        Check.due("another object's pieces", y.count(0), 0);
        Check.due("another object's time", y.count(6), 0);
        y.piece();
        y.robot(0);
        y.fault(0, 0);
        Check.due("another object's rule", y.alarm(0, 2), 3);
    }
}
