/** Promises 4 (robot), 7 (load), 20 (told). */
public final class RobotTest {
    public static void main(String[] args) {
        aNewRobotIsTold();
        unitsAreCarried();
        openKindsAreTold();
        Check.end();
    }

    private static void aNewRobotIsTold() {
        RobotFaults x = Check.row(3);
        x.robot(2);
        Check.told(x, 0, 0, 2, -1, 0, 0);
    }

    private static void unitsAreCarried() {
        RobotFaults x = Check.robots(2);
        int[] units = {0, 99, 5, -1, 7};
        for (int unit : units) {
            x.load(1, unit);
            Check.due("load(1, " + unit + ")", x.told(1, 2), unit);
            Check.due("the other's unit", x.told(0, 2), -1);
        }
    }

    private static void openKindsAreTold() {
        RobotFaults x = Check.robots(2);
        x.load(0, 1);
        for (int kind = 7; kind >= 0; kind--) {
            x.fault(0, kind);
        }
        Check.due("all kinds", x.told(0, 3), 255);
        Check.due("the other's kinds", x.told(1, 3), 0);
        Check.due("the other's state", x.told(1, 0), 0);
        x.step(1, 0);
        x.step(8, 0);
        Check.due("without 0 and 7", x.told(0, 3), 126);
    }
}
