/** Promises 12 (zone), 13 (found). */
public final class LostTest {
    public static void main(String[] args) {
        theZoneGrows();
        theZoneEndsWhereLinksEnd();
        linksThatComeLaterCount();
        theWholeRowIsReached();
        foundByTheFewestLinks();
        aRobotIsLostAnew();
        Check.end();
    }

    private static void theZoneGrows() {
        RobotFaults x = Check.row(7);
        x.robot(3);
        x.pass(17);
        x.fault(0, 1);
        Check.zone(x, 0, 3);
        x.pass(9);
        Check.zone(x, 0, 3);
        x.pass(1);
        Check.zone(x, 0, 2, 3, 4);
        x.pass(9);
        Check.zone(x, 0, 2, 3, 4);
        x.pass(1);
        Check.zone(x, 0, 1, 2, 3, 4, 5);
        x.step(1, 0);
        x.pass(10);
        Check.zone(x, 0, 0, 1, 2, 3, 4, 5, 6);
        Check.due("its last piece is told", x.told(0, 1), 3);
    }

    private static void theZoneEndsWhereLinksEnd() {
        RobotFaults x = new RobotFaults();
        for (int i = 0; i < 5; i++) {
            x.piece();
        }
        x.link(4, 1);
        x.robot(4);
        x.fault(0, 1);
        x.pass(1000);
        Check.zone(x, 0, 1, 4);
        Check.refused("found where no link leads", IllegalStateException.class, () -> x.found(0, 2));
    }

    private static void linksThatComeLaterCount() {
        RobotFaults x = Check.row(2);
        x.robot(0);
        x.fault(0, 1);
        x.pass(20);
        x.piece();
        Check.zone(x, 0, 0, 1);
        x.link(2, 1);
        Check.zone(x, 0, 0, 1, 2);
    }

    private static void theWholeRowIsReached() {
        RobotFaults x = Check.row(20);
        x.robot(0);
        x.fault(0, 1);
        x.pass(189);
        Check.due("19th piece", x.zone(0, 18), 18);
        Check.due("20th piece, a second early", x.zone(0, 19), -1);
        x.pass(1);
        Check.due("20th piece", x.zone(0, 19), 19);
        Check.due("found at the end of the row", x.found(0, 19), 19);
    }

    private static void foundByTheFewestLinks() {
        RobotFaults x = Check.row(6);
        x.link(0, 4);
        x.robot(0);
        x.fault(0, 1);
        x.pass(500);
        Check.due("found(0, 5)", x.found(0, 5), 2);
        Check.due("stopped", x.told(0, 0), 1);
        Check.due("there", x.told(0, 1), 5);
        Check.due("its fault stays open", x.told(0, 3), 2);
        x.step(1, 0);
        x.resume(0);
        x.fault(0, 1);
        Check.due("found on its last piece", x.found(0, 5), 0);
    }

    /** A second lost connection counts its seconds anew, be the robot found or still lost. */
    private static void aRobotIsLostAnew() {
        RobotFaults x = Check.row(4);
        x.robot(0);
        x.fault(0, 1);
        x.pass(10);
        x.found(0, 1);
        x.step(1, 0);
        x.pass(50);
        x.fault(0, 1);
        Check.zone(x, 0, 1);
        x.pass(10);
        Check.zone(x, 0, 0, 1, 2);
        x.step(2, 0);
        x.fault(0, 1);
        Check.zone(x, 0, 1);
        x.pass(10);
        Check.zone(x, 0, 0, 1, 2);
    }
}
