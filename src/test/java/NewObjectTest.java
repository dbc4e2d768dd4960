import java.util.NoSuchElementException;

/** Promise 1. */
public final class NewObjectTest {
    public static void main(String[] args) {
        nothingIsThere();
        rulesAreTheFirstOnes();
        objectsAreApart();
        Check.end();
    }

    private static void nothingIsThere() {
        RobotFaults x = new RobotFaults();
        for (int what = 0; what <= 8; what++) {
            Check.due("new: count(" + what + ")", x.count(what), 0);
        }
        Check.due("new: first()", x.first(), -1);
        Check.refused("new: robot(0)", NoSuchElementException.class, () -> x.robot(0));
        Check.refused("new: told(0, 0)", NoSuchElementException.class, () -> x.told(0, 0));
        Check.refused("new: known(1, 0)", NoSuchElementException.class, () -> x.known(1, 0));
        Check.refused("new: alarm(0, 0)", NoSuchElementException.class, () -> x.alarm(0, 0));
    }

    private static void rulesAreTheFirstOnes() {
        for (int kind = 0; kind < 8; kind++) {
            RobotFaults x = Check.robots(1);
            x.load(0, 0);
            x.fault(0, kind);
            Check.due("first rule " + kind + ": rank", x.alarm(0, 2), 3);
            Check.due("first rule " + kind + ": test", x.told(0, 4), 0);
            Check.due("first rule " + kind + ": persons", x.step(1, 0), 1);
        }
    }

    private static void objectsAreApart() {
        RobotFaults x = Check.robots(1);
        RobotFaults y = new RobotFaults();
        x.rule(0, 2, true, 1);
        x.pass(7);
        Check.due("another object's pieces", y.count(0), 0);
        Check.due("another object's time", y.count(6), 0);
        y.piece();
        y.robot(0);
        y.fault(0, 0);
        Check.due("another object's rule", y.alarm(0, 2), 3);
    }
}
