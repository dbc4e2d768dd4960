import java.util.NoSuchElementException;

/** Promises 2 (piece), 3 (link), 6 (move). */
public final class TrackTest {
    public static void main(String[] args) {
        linksGoBothWays();
        onlyGoingRobotsMove();
        Check.end();
    }

    private static void linksGoBothWays() {
        RobotFaults x = Check.row(3);
        x.robot(0);
        x.move(0, 1);
        x.move(0, 2);
        x.move(0, 1);
        x.move(0, 0);
        Check.due("piece after moves", x.told(0, 1), 0);
    }

    private static void onlyGoingRobotsMove() {
        RobotFaults x = Check.row(2);
        x.robot(0);
        x.fault(0, 0);
        Check.refused("move of a stopped one", IllegalStateException.class, () -> x.move(0, 1));
        x.tow(0, 0);
        Check.refused("move of a towed one", IllegalStateException.class, () -> x.move(0, 1));
        x.fault(0, 1);
        Check.refused("move of a lost one", IllegalStateException.class, () -> x.move(0, 1));
        Check.refused("a piece that is not there comes first", NoSuchElementException.class, () -> x.move(0, 9));
        x.found(0, 0);
        x.step(1, 0);
        x.step(2, 0);
        x.resume(0);
        x.move(0, 1);
        Check.due("piece after resuming", x.told(0, 1), 1);
    }
}
