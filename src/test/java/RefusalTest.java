import java.util.ArrayList;
import java.util.List;
import java.util.NoSuchElementException;

/**
 * The document's REFUSALS: the first that holds, and nothing has changed after it. Two objects go through the same
 * calls, one of them through refused ones too: then both have to answer alike, at once and long after.
 */
public final class RefusalTest {
    private static final Class<NoSuchElementException> NO_SUCH = NoSuchElementException.class;
    private static final Class<IllegalArgumentException> ARGUMENT = IllegalArgumentException.class;
    private static final Class<IllegalStateException> STATE = IllegalStateException.class;
    private static final Class<UnsupportedOperationException> NO_ROOM = UnsupportedOperationException.class;

    private static final int GOING = 0;
    private static final int STOPPED = 1;
    private static final int LOST = 2;
    private static final int TOWED = 3;

    private interface Calls {
        void make(RobotFaults x);
    }

    public static void main(String[] args) {
        changesNothing("no such piece", RefusalTest::withoutPieces);
        changesNothing("no such robot", RefusalTest::withoutRobots);
        changesNothing("no such fault or alarm", RefusalTest::withoutFaultsAndAlarms);
        changesNothing("numbers outside their ranges", RefusalTest::outsideRanges);
        changesNothing("not as it is now", RefusalTest::notAsItIs);
        changesNothing("no room", RefusalTest::noRoom);
        Check.end();
    }

    private static void changesNothing(String refusals, Calls refused) {
        Check.about("REFUSALS, the first that holds: " + refusals);
        RobotFaults x = manyThings();
        RobotFaults y = manyThings();
        refused.make(x);
        same("at once", x, y);
        goOn(x);
        goOn(y);
        same("long after", x, y);
    }

    /** A robot of each state at its number; no room for another piece, robot or planted fault. */
    private static RobotFaults manyThings() {
        RobotFaults x = Check.row(20);
        for (int robot = 0; robot < 8; robot++) {
            x.robot(robot % 4);
        }
        x.rule(4, 2, true, 2);
        x.load(GOING, 7);
        x.fault(STOPPED, 4);
        x.step(1, 6);
        x.step(x.fault(LOST, 1), 0);
        x.step(x.fault(TOWED, 3), 1);
        x.tow(TOWED, 9);
        x.acknowledge(1, 5);
        for (int i = 0; i < 10; i++) {
            x.plant(GOING, 5 + i % 3, 40 + i);
        }
        x.pass(15);
        return x;
    }

    private static void goOn(RobotFaults x) {
        x.fault(GOING, 4);
        x.step(1, 3);
        x.pass(29);
        x.found(LOST, 5);
        x.pass(31);
        x.test(TOWED, true);
        x.resume(TOWED);
    }

    private static void same(String when, RobotFaults x, RobotFaults y) {
        List<Integer> got = picture(x);
        List<Integer> want = picture(y);
        if (!got.equals(want)) {
            Check.report(when + " it is " + got + ", due is " + want);
        }
    }

    private static List<Integer> picture(RobotFaults x) {
        List<Integer> all = new ArrayList<>();
        for (int what = 0; what <= 8; what++) {
            all.add(x.count(what));
        }
        all.add(x.first());
        for (int robot = 0; robot < 4; robot++) {
            for (int what = 0; what <= 4; what++) {
                all.add(x.told(robot, what));
            }
        }
        for (int fault = 1; fault <= x.count(2); fault++) {
            for (int what = 0; what <= 8; what++) {
                all.add(x.known(fault, what));
            }
        }
        for (int alarm = 0; alarm < x.count(4); alarm++) {
            for (int what = 0; what <= 6; what++) {
                all.add(x.alarm(alarm, what));
            }
        }
        return all;
    }

    private static void withoutPieces(RobotFaults x) {
        int[] none = {-1, 20, 32, Integer.MIN_VALUE, Integer.MAX_VALUE};
        for (int n : none) {
            Check.refused("link(0, " + n + ")", NO_SUCH, () -> x.link(0, n));
            Check.refused("link(" + n + ", 0)", NO_SUCH, () -> x.link(n, 0));
            Check.refused("link of " + n + " with itself", NO_SUCH, () -> x.link(n, n));
            Check.refused("robot(" + n + ") without room", NO_SUCH, () -> x.robot(n));
            for (int robot = GOING; robot <= TOWED; robot++) {
                int each = robot;
                Check.refused("move(" + each + ", " + n + ")", NO_SUCH, () -> x.move(each, n));
                Check.refused("found(" + each + ", " + n + ")", NO_SUCH, () -> x.found(each, n));
                Check.refused("tow(" + each + ", " + n + ")", NO_SUCH, () -> x.tow(each, n));
            }
        }
    }

    private static void withoutRobots(RobotFaults x) {
        int[] none = {-1, 8, 32, Integer.MIN_VALUE, Integer.MAX_VALUE};
        for (int n : none) {
            Check.refused("move(" + n + ", 1)", NO_SUCH, () -> x.move(n, 1));
            Check.refused("move(" + n + ", 20)", NO_SUCH, () -> x.move(n, 20));
            Check.refused("load(" + n + ", 1)", NO_SUCH, () -> x.load(n, 1));
            Check.refused("load(" + n + ", 100)", NO_SUCH, () -> x.load(n, 100));
            Check.refused("fault(" + n + ", 2)", NO_SUCH, () -> x.fault(n, 2));
            Check.refused("fault(" + n + ", 8)", NO_SUCH, () -> x.fault(n, 8));
            Check.refused("test(" + n + ")", NO_SUCH, () -> x.test(n, false));
            Check.refused("resume(" + n + ")", NO_SUCH, () -> x.resume(n));
            Check.refused("zone(" + n + ", -1)", NO_SUCH, () -> x.zone(n, -1));
            Check.refused("found(" + n + ", 2)", NO_SUCH, () -> x.found(n, 2));
            Check.refused("tow(" + n + ", 2)", NO_SUCH, () -> x.tow(n, 2));
            Check.refused("plant(" + n + ", 0, 1) without room", NO_SUCH, () -> x.plant(n, 0, 1));
            Check.refused("plant(" + n + ", 8, 0)", NO_SUCH, () -> x.plant(n, 8, 0));
            Check.refused("told(" + n + ", 5)", NO_SUCH, () -> x.told(n, 5));
        }
    }

    private static void withoutFaultsAndAlarms(RobotFaults x) {
        int[] none = {-1, 4, 32, 40, 41, Integer.MIN_VALUE, Integer.MAX_VALUE};
        for (int n : none) {
            Check.refused("step(" + n + ", 3)", NO_SUCH, () -> x.step(n, 3));
            Check.refused("step(" + n + ", 8)", NO_SUCH, () -> x.step(n, 8));
            Check.refused("known(" + n + ", 9)", NO_SUCH, () -> x.known(n, 9));
            Check.refused("acknowledge(" + n + ", 3)", NO_SUCH, () -> x.acknowledge(n, 3));
            Check.refused("acknowledge(" + n + ", 8)", NO_SUCH, () -> x.acknowledge(n, 8));
            Check.refused("alarm(" + n + ", 7)", NO_SUCH, () -> x.alarm(n, 7));
        }
        Check.refused("step(0, 3)", NO_SUCH, () -> x.step(0, 3));
        Check.refused("known(0, 0)", NO_SUCH, () -> x.known(0, 0));
        Check.refused("alarm(3, 0)", NO_SUCH, () -> x.alarm(3, 0));
    }

    private static void outsideRanges(RobotFaults x) {
        Check.refused("link(3, 3)", ARGUMENT, () -> x.link(3, 3));
        Check.refusedOutside("rule(., 1, false, 1)", 0, 7, ARGUMENT, n -> x.rule(n, 1, false, 1));
        Check.refusedOutside("rule(4, ., false, 1)", 1, 2, ARGUMENT, n -> x.rule(4, n, false, 1));
        Check.refusedOutside("rule(4, 1, false, .)", 1, 5, ARGUMENT, n -> x.rule(4, 1, false, n));
        Check.refusedOutside("load(GOING, .)", -1, 99, ARGUMENT, n -> x.load(GOING, n));
        Check.refusedOutside("load(LOST, .)", -1, 99, ARGUMENT, n -> x.load(LOST, n));
        Check.refusedOutside("fault(GOING, .)", 0, 7, ARGUMENT, n -> x.fault(GOING, n));
        Check.refusedOutside("step(1, .)", 0, 7, ARGUMENT, n -> x.step(1, n));
        Check.refusedOutside("step(2, .) of a reset one", 0, 7, ARGUMENT, n -> x.step(2, n));
        Check.refused("zone(LOST, -1)", ARGUMENT, () -> x.zone(LOST, -1));
        Check.refused("zone(GOING, -1)", ARGUMENT, () -> x.zone(GOING, -1));
        Check.refusedOutside("plant(GOING, ., 1) without room", 0, 7, ARGUMENT, n -> x.plant(GOING, n, 1));
        Check.refusedOutside("plant(GOING, 0, .) without room", 1, 1000, ARGUMENT, n -> x.plant(GOING, 0, n));
        Check.refusedOutside("pass(.)", 0, 1000, ARGUMENT, x::pass);
        Check.refusedOutside("acknowledge(0, .)", 0, 7, ARGUMENT, n -> x.acknowledge(0, n));
        Check.refusedOutside("acknowledge(1, .), somebody did", 0, 7, ARGUMENT, n -> x.acknowledge(1, n));
    }

    private static void notAsItIs(RobotFaults x) {
        Check.refused("move of a going one, not linked", STATE, () -> x.move(GOING, 2));
        Check.refused("move of a stopped one", STATE, () -> x.move(STOPPED, 2));
        Check.refused("move of a lost one", STATE, () -> x.move(LOST, 3));
        Check.refused("move of a towed one", STATE, () -> x.move(TOWED, 8));
        Check.refused("load of a lost one", STATE, () -> x.load(LOST, 3));
        Check.refused("lost load of one with none", STATE, () -> x.fault(STOPPED, 2));
        Check.refused("step of a reset one", STATE, () -> x.step(2, 1));
        Check.refused("test of a going one", STATE, () -> x.test(GOING, false));
        Check.refused("test of one with an open fault", STATE, () -> x.test(STOPPED, true));
        Check.refused("test of a lost one", STATE, () -> x.test(LOST, false));
        Check.refused("resume of a going one", STATE, () -> x.resume(GOING));
        Check.refused("zone of a going one", STATE, () -> x.zone(GOING, 0));
        Check.refused("zone of a stopped one", STATE, () -> x.zone(STOPPED, 0));
        Check.refused("zone of a towed one", STATE, () -> x.zone(TOWED, 0));
        Check.refused("found of a going one", STATE, () -> x.found(GOING, 0));
        Check.refused("found of a stopped one", STATE, () -> x.found(STOPPED, 1));
        Check.refused("found of a towed one", STATE, () -> x.found(TOWED, 9));
        Check.refused("found too far", STATE, () -> x.found(LOST, 4));
        Check.refused("tow of a going one", STATE, () -> x.tow(GOING, 1));
        Check.refused("tow of a lost one", STATE, () -> x.tow(LOST, 1));
        Check.refused("somebody acknowledged", STATE, () -> x.acknowledge(1, 0));
    }

    private static void noRoom(RobotFaults x) {
        Check.refused("piece()", NO_ROOM, x::piece);
        Check.refused("robot(0)", NO_ROOM, () -> x.robot(0));
        Check.refused("plant(GOING, 0, 1)", NO_ROOM, () -> x.plant(GOING, 0, 1));
        Check.refused("plant(LOST, 2, 1000)", NO_ROOM, () -> x.plant(LOST, 2, 1000));
    }
}
