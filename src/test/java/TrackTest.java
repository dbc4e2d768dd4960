import java.util.NoSuchElementException;

/** Promises 2 (piece), 3 (link), 6 (move). */
public final class TrackTest {
    public static void main(String[] args) {
        piecesAreNumbered();
        linksAreRefused();
        linksGoBothWays();
        movesAreRefused();
        onlyGoingRobotsMove();
        Check.end();
    }

    private static void piecesAreNumbered() {
        RobotFaults x = new RobotFaults();
        for (int i = 0; i < 20; i++) {
            Check.due("piece()", x.piece(), i);
            Check.due("count(0)", x.count(0), i + 1);
        }
        Check.refused("21st piece", UnsupportedOperationException.class, x::piece);
        Check.due("count(0) then", x.count(0), 20);
        x.link(19, 0);
        x.robot(19);
        x.move(0, 0);
        Check.due("a move over the last piece", x.told(0, 1), 0);
    }

    private static void linksAreRefused() {
        RobotFaults x = Check.row(2);
        Check.refused("link(0, 2)", NoSuchElementException.class, () -> x.link(0, 2));
        Check.refused("link(2, 0)", NoSuchElementException.class, () -> x.link(2, 0));
        Check.refused("link(-1, 0)", NoSuchElementException.class, () -> x.link(-1, 0));
        Check.refused("link(0, -1)", NoSuchElementException.class, () -> x.link(0, -1));
        Check.refused("link(2, 2)", NoSuchElementException.class, () -> x.link(2, 2));
        Check.refused("link(min, max)", NoSuchElementException.class,
                () -> x.link(Integer.MIN_VALUE, Integer.MAX_VALUE));
        Check.refused("link(1, 1)", IllegalArgumentException.class, () -> x.link(1, 1));
        x.link(0, 1);
        x.link(1, 0);
    }

    private static void linksGoBothWays() {
        RobotFaults x = Check.row(3);
        x.robot(0);
        x.move(0, 1);
        x.move(0, 2);
        x.move(0, 1);
        x.move(0, 0);
        Check.due("piece after moves", x.told(0, 1), 0);
    }

    private static void movesAreRefused() {
        RobotFaults x = Check.row(3);
        x.robot(0);
        Check.refused("move(0, 2)", IllegalStateException.class, () -> x.move(0, 2));
        Check.refused("move(0, 0)", IllegalStateException.class, () -> x.move(0, 0));
        Check.refused("move(1, 1)", NoSuchElementException.class, () -> x.move(1, 1));
        Check.refused("move(-1, 1)", NoSuchElementException.class, () -> x.move(-1, 1));
        Check.refused("move(0, 3)", NoSuchElementException.class, () -> x.move(0, 3));
        Check.refused("move(0, -1)", NoSuchElementException.class, () -> x.move(0, -1));
        Check.due("piece after refusals", x.told(0, 1), 0);
    }

    private static void onlyGoingRobotsMove() {
        RobotFaults x = Check.row(2);
        x.robot(0);
        x.fault(0, 0);
        Check.refused("move of a stopped one", IllegalStateException.class, () -> x.move(0, 1));
        x.tow(0, 0);
        Check.refused("move of a towed one", IllegalStateException.class, () -> x.move(0, 1));
        x.fault(0, 1);
        Check.refused("move of a lost one", IllegalStateException.class, () -> x.move(0, 1));
        Check.refused("a piece that is not there comes first", NoSuchElementException.class, () -> x.move(0, 9));
        x.found(0, 0);
        x.step(1, 0);
        x.step(2, 0);
        x.resume(0);
        x.move(0, 1);
        Check.due("piece after resuming", x.told(0, 1), 1);
    }
}
