import java.util.NoSuchElementException;

/** Promises 4 (robot), 7 (load), 20 (told). */
public final class RobotTest {
    public static void main(String[] args) {
        robotsAreNumbered();
        aNewRobotIsTold();
        unitsAreCarried();
        lostRobotsAreNotLoaded();
        openKindsAreTold();
        toldIsRefused();
        Check.end();
    }

    private static void robotsAreNumbered() {
        RobotFaults x = Check.row(1);
        for (int i = 0; i < 8; i++) {
            Check.due("robot(0)", x.robot(0), i);
            Check.due("count(1)", x.count(1), i + 1);
        }
        Check.refused("9th robot", UnsupportedOperationException.class, () -> x.robot(0));
        Check.refused("9th robot on no piece", NoSuchElementException.class, () -> x.robot(1));
        Check.refused("9th robot on piece -1", NoSuchElementException.class, () -> x.robot(-1));
        Check.due("count(1) then", x.count(1), 8);
    }

    private static void aNewRobotIsTold() {
        RobotFaults x = Check.row(3);
        x.robot(2);
        int[] want = {0, 2, -1, 0, 0};
        for (int what = 0; what < want.length; what++) {
            Check.due("new robot: told " + what, x.told(0, what), want[what]);
        }
    }

    private static void unitsAreCarried() {
        RobotFaults x = Check.robots(2);
        int[] units = {0, 99, 5, -1, 7};
        for (int unit : units) {
            x.load(1, unit);
            Check.due("load(1, " + unit + ")", x.told(1, 2), unit);
            Check.due("the other's unit", x.told(0, 2), -1);
        }
        Check.refused("load(1, 100)", IllegalArgumentException.class, () -> x.load(1, 100));
        Check.refused("load(1, -2)", IllegalArgumentException.class, () -> x.load(1, -2));
        Check.refused("load(2, 100)", NoSuchElementException.class, () -> x.load(2, 100));
        Check.refused("load(-1, 0)", NoSuchElementException.class, () -> x.load(-1, 0));
        Check.due("unit after refusals", x.told(1, 2), 7);
    }

    private static void lostRobotsAreNotLoaded() {
        RobotFaults x = Check.robots(1);
        x.load(0, 4);
        x.fault(0, 0);
        x.load(0, 5);
        Check.due("unit of a stopped one", x.told(0, 2), 5);
        x.tow(0, 0);
        x.load(0, 6);
        Check.due("unit of a towed one", x.told(0, 2), 6);
        x.fault(0, 1);
        Check.refused("load of a lost one", IllegalStateException.class, () -> x.load(0, 7));
        Check.refused("unload of a lost one", IllegalStateException.class, () -> x.load(0, -1));
        Check.refused("a wrong unit comes first", IllegalArgumentException.class, () -> x.load(0, 100));
        Check.due("unit of a lost one", x.told(0, 2), 6);
    }

    private static void openKindsAreTold() {
        RobotFaults x = Check.robots(2);
        x.load(0, 1);
        for (int kind = 7; kind >= 0; kind--) {
            x.fault(0, kind);
        }
        Check.due("all kinds", x.told(0, 3), 255);
        Check.due("the other's kinds", x.told(1, 3), 0);
        Check.due("the other's state", x.told(1, 0), 0);
        x.step(1, 0);
        x.step(8, 0);
        Check.due("without 0 and 7", x.told(0, 3), 126);
    }

    private static void toldIsRefused() {
        RobotFaults x = Check.robots(1);
        Check.refused("told(0, 5)", IllegalArgumentException.class, () -> x.told(0, 5));
        Check.refused("told(0, -1)", IllegalArgumentException.class, () -> x.told(0, -1));
        Check.refused("told(1, 5)", NoSuchElementException.class, () -> x.told(1, 5));
        Check.refused("told(8, 0)", NoSuchElementException.class, () -> x.told(8, 0));
        Check.refused("told(-1, 0)", NoSuchElementException.class, () -> x.told(-1, 0));
        Check.refused("told(min, 0)", NoSuchElementException.class, () -> x.told(Integer.MIN_VALUE, 0));
    }
}
