import java.util.NoSuchElementException;

/** Promises 12 (zone), 13 (found). */
public final class LostTest {
    public static void main(String[] args) {
        theZoneGrows();
        theZoneEndsWhereLinksEnd();
        linksThatComeLaterCount();
        theWholeRowIsReached();
        zonesAreRefused();
        foundByTheFewestLinks();
        findingIsRefused();
        aRobotIsLostAnew();
        Check.end();
    }

    private static void zone(RobotFaults x, int robot, int... want) {
        for (int i = 0; i < want.length; i++) {
            Check.due("zone(" + robot + ", " + i + ")", x.zone(robot, i), want[i]);
        }
        Check.due("zone(" + robot + ", end)", x.zone(robot, want.length), -1);
        Check.due("zone(" + robot + ", max)", x.zone(robot, Integer.MAX_VALUE), -1);
    }

    private static void theZoneGrows() {
        RobotFaults x = Check.row(7);
        x.robot(3);
        x.pass(17);
        x.fault(0, 1);
        zone(x, 0, 3);
        x.pass(9);
        zone(x, 0, 3);
        x.pass(1);
        zone(x, 0, 2, 3, 4);
        x.pass(9);
        zone(x, 0, 2, 3, 4);
        x.pass(1);
        zone(x, 0, 1, 2, 3, 4, 5);
        x.step(1, 0);
        x.pass(10);
        zone(x, 0, 0, 1, 2, 3, 4, 5, 6);
        Check.due("its last piece is told", x.told(0, 1), 3);
    }

    private static void theZoneEndsWhereLinksEnd() {
        RobotFaults x = new RobotFaults();
        for (int i = 0; i < 5; i++) {
            x.piece();
        }
        x.link(4, 1);
        x.robot(4);
        x.fault(0, 1);
        x.pass(1000);
        zone(x, 0, 1, 4);
        Check.refused("found where no link leads", IllegalStateException.class, () -> x.found(0, 2));
    }

    private static void linksThatComeLaterCount() {
        RobotFaults x = Check.row(2);
        x.robot(0);
        x.fault(0, 1);
        x.pass(20);
        x.piece();
        zone(x, 0, 0, 1);
        x.link(2, 1);
        zone(x, 0, 0, 1, 2);
    }

    private static void theWholeRowIsReached() {
        RobotFaults x = Check.row(20);
        x.robot(0);
        x.fault(0, 1);
        x.pass(189);
        Check.due("19th piece", x.zone(0, 18), 18);
        Check.due("20th piece, a second early", x.zone(0, 19), -1);
        x.pass(1);
        Check.due("20th piece", x.zone(0, 19), 19);
        Check.due("found at the end of the row", x.found(0, 19), 19);
    }

    private static void zonesAreRefused() {
        RobotFaults x = Check.robots(1);
        Check.refused("zone(1, 0)", NoSuchElementException.class, () -> x.zone(1, 0));
        Check.refused("zone(-1, -1)", NoSuchElementException.class, () -> x.zone(-1, -1));
        Check.refused("zone(0, -1) of a going one", IllegalArgumentException.class, () -> x.zone(0, -1));
        Check.refused("zone of a going one", IllegalStateException.class, () -> x.zone(0, 0));
        x.fault(0, 0);
        Check.refused("zone of a stopped one", IllegalStateException.class, () -> x.zone(0, 0));
        x.tow(0, 0);
        Check.refused("zone of a towed one", IllegalStateException.class, () -> x.zone(0, 0));
        x.fault(0, 1);
        Check.refused("zone(0, -1)", IllegalArgumentException.class, () -> x.zone(0, -1));
        Check.refused("zone(0, min)", IllegalArgumentException.class, () -> x.zone(0, Integer.MIN_VALUE));
        Check.due("zone(0, 0)", x.zone(0, 0), 0);
    }

    private static void foundByTheFewestLinks() {
        RobotFaults x = Check.row(6);
        x.link(0, 4);
        x.robot(0);
        x.fault(0, 1);
        x.pass(500);
        Check.due("found(0, 5)", x.found(0, 5), 2);
        Check.due("stopped", x.told(0, 0), 1);
        Check.due("there", x.told(0, 1), 5);
        Check.due("its fault stays open", x.told(0, 3), 2);
        x.step(1, 0);
        x.resume(0);
        x.fault(0, 1);
        Check.due("found on its last piece", x.found(0, 5), 0);
    }

    private static void findingIsRefused() {
        RobotFaults x = Check.row(3);
        x.robot(0);
        Check.refused("found(1, 0)", NoSuchElementException.class, () -> x.found(1, 0));
        Check.refused("found(-1, 0)", NoSuchElementException.class, () -> x.found(-1, 0));
        Check.refused("found(0, 3)", NoSuchElementException.class, () -> x.found(0, 3));
        Check.refused("found(0, -1)", NoSuchElementException.class, () -> x.found(0, -1));
        Check.refused("found, going", IllegalStateException.class, () -> x.found(0, 0));
        x.fault(0, 1);
        x.pass(19);
        Check.refused("found too far", IllegalStateException.class, () -> x.found(0, 2));
        Check.due("still lost", x.told(0, 0), 2);
        x.pass(1);
        Check.due("found in time", x.found(0, 2), 2);
        Check.refused("found again", IllegalStateException.class, () -> x.found(0, 2));
        x.tow(0, 0);
        Check.refused("found, towed", IllegalStateException.class, () -> x.found(0, 0));
    }

    /** A second lost connection counts its seconds anew, be the robot found or still lost. */
    private static void aRobotIsLostAnew() {
        RobotFaults x = Check.row(4);
        x.robot(0);
        x.fault(0, 1);
        x.pass(10);
        x.found(0, 1);
        x.step(1, 0);
        x.pass(50);
        x.fault(0, 1);
        zone(x, 0, 1);
        x.pass(10);
        zone(x, 0, 0, 1, 2);
        x.step(2, 0);
        x.fault(0, 1);
        zone(x, 0, 1);
        x.pass(10);
        zone(x, 0, 0, 1, 2);
    }
}
