import java.util.NoSuchElementException;

/** The edges that promises 8 to 14 name, in their order; each method tests the sentence that it quotes. */
public final class Edges8To14Test {
    public static void main(String[] args) {
        faultOfARobotThatIsNotThere();
        faultOfAWrongKind();
        lostLoadOfOneThatCarriesNothing();
        lostLoadAtTheEnds();
        faultThatIsOpenAlready();
        lostLoadThatIsOpenAlready();
        faultsFull();
        faultsFullAndOneOpen();
        stepOfAFaultThatIsNotThere();
        stepOfAWrongPerson();
        stepOfEachPerson();
        stepAnswers();
        stepOfAResetFault();
        testOfARobotThatIsNotThere();
        testOfOneThatIsGoingOrLost();
        testWithAnOpenFault();
        testThatIsBad();
        resumeOfARobotThatIsNotThere();
        resumeOfOneThatIsGoing();
        resumeTheFirstReasonThatHolds();
        zoneOfARobotThatIsNotThere();
        zoneBelowZero();
        zoneOfOneThatIsNotLost();
        zoneBehindTheLast();
        foundOfWhatIsNotThere();
        foundOfOneThatIsNotLost();
        foundWhereItMayNotBe();
        foundOverTheFewestLinks();
        towOfWhatIsNotThere();
        towOfOneThatIsGoingOrLost();
        towToEachPiece();
        Check.end();
    }

    private static void faultOfARobotThatIsNotThere() {
        Check.about("Promise 8: NoSuchElementException");
        RobotFaults x = Check.robots(2);
        Check.refusedOutside("fault(., 0)", 0, 1, NoSuchElementException.class, n -> x.fault(n, 0));
        Check.refusedOutside("fault(., 8)", 0, 1, NoSuchElementException.class, n -> x.fault(n, 8));
        Check.refusedOutside("fault(., 2)", 0, 1, NoSuchElementException.class, n -> x.fault(n, 2));
        Check.counts(x, 1, 2, 0, 0, 0, 0, 0, 0, 0);
    }

    private static void faultOfAWrongKind() {
        Check.about("Promise 8: IllegalArgumentException (KINDS of faults are 0 .. 7)");
        for (int state = 0; state < 4; state++) {
            RobotFaults x = Check.robotThatIs(state);
            int faults = x.count(2);
            Check.refusedOutside("fault(0, .)", 0, 7, IllegalArgumentException.class, n -> x.fault(0, n));
            Check.due("faults", x.count(2), faults);
            Check.due("open ones", x.count(3), 0);
            Check.due("state", x.told(0, 0), state);
            Check.due("the least kind", x.fault(0, 0), faults + 1);
            Check.due("the greatest kind", x.fault(0, 7), faults + 2);
        }
    }

    private static void lostLoadOfOneThatCarriesNothing() {
        Check.about("Promise 8: IllegalStateException: kind 2, and it carries nothing.");
        for (int state = 0; state < 4; state++) {
            RobotFaults x = Check.robotThatIs(state);
            int faults = x.count(2);
            Check.refused("state " + state, IllegalStateException.class, () -> x.fault(0, 2));
            Check.due("faults", x.count(2), faults);
            Check.due("alarms", x.count(4), faults);
            Check.due("state", x.told(0, 0), state);
            Check.due("open kinds", x.told(0, 3), 0);
        }
    }

    private static void lostLoadAtTheEnds() {
        Check.about("Promise 8: (With kind 2 it carries nothing then: the unit is lost at its piece.)");
        int[] units = {0, 99};
        for (int unit : units) {
            RobotFaults x = Check.row(3);
            x.robot(2);
            x.load(0, unit);
            Check.due("fault(0, 2)", x.fault(0, 2), 1);
            Check.told(x, 0, 1, 2, -1, 4, 0);
            Check.known(x, 1, 0, 2, 0, -1, 0, 0, 0, 2, unit);
            x.tow(0, 0);
            x.load(0, 50);
            Check.due("the piece stays", x.known(1, 7), 2);
            Check.due("the lost unit stays", x.known(1, 8), unit);
        }
    }

    private static void faultThatIsOpenAlready() {
        Check.about("Promise 8: less the number of the open one of this kind that the robot has (nothing changes then)");
        RobotFaults x = Check.row(2);
        x.robot(0);
        x.robot(0);
        x.fault(1, 1);
        x.fault(0, 1);
        x.rule(1, 2, true, 1);
        x.pass(10);
        x.acknowledge(1, 2);
        Check.due("of robot 0", x.fault(0, 1), -2);
        Check.due("of robot 1", x.fault(1, 1), -1);
        Check.zone(x, 0, 0, 1);
        Check.told(x, 0, 2, 0, -1, 2, 0);
        Check.known(x, 2, 0, 1, 0, -1, 1, 0, 0, 0, -1);
        Check.alarm(x, 1, 0, 1, 3, 0, 1, 2, 0);
        Check.counts(x, 2, 2, 2, 2, 2, 1, 10, 20, 0);
        x.found(0, 1);
        Check.due("open, though found", x.fault(0, 1), -2);
        Check.told(x, 0, 1, 1, -1, 2, 0);
        Check.due("one person still resets it", x.step(2, 0), 1);
    }

    private static void lostLoadThatIsOpenAlready() {
        Check.about("Promise 8: if it is not refused, less the number of the open one of this kind");
        RobotFaults x = Check.robots(1);
        x.load(0, 5);
        x.fault(0, 2);
        Check.refused("it carries nothing", IllegalStateException.class, () -> x.fault(0, 2));
        x.load(0, 0);
        Check.due("it carries one again", x.fault(0, 2), -1);
        Check.due("and keeps it", x.told(0, 2), 0);
        Check.due("what was lost", x.known(1, 8), 5);
        x.step(1, 0);
        Check.due("a new one", x.fault(0, 2), 2);
        Check.due("what is lost now", x.known(2, 8), 0);
    }

    private static void faultsFull() {
        Check.about("Promise 8: UnsupportedOperationException (at most 40 ever)");
        RobotFaults x = Check.robots(2);
        x.load(1, 7);
        Check.faultsAndResets(x, 0, 0, 40);
        for (int kind = 0; kind < 8; kind++) {
            int each = kind;
            Check.refused("kind " + kind, UnsupportedOperationException.class, () -> x.fault(1, each));
        }
        Check.told(x, 1, 0, 0, 7, 0, 0);
        Check.counts(x, 1, 2, 40, 0, 1, 1, 0, 0, 0);
        Check.refused("no robot comes before no room", NoSuchElementException.class, () -> x.fault(2, 0));
        Check.refused("a wrong kind comes before no room", IllegalArgumentException.class, () -> x.fault(1, 8));
        Check.refused("no load comes before no room", IllegalStateException.class, () -> x.fault(0, 2));
        Check.refused("known(41, 0)", NoSuchElementException.class, () -> x.known(41, 0));
    }

    /** Where the document leaves a choice: "if it is not refused" is taken to mean no room, too. */
    private static void faultsFullAndOneOpen() {
        Check.about("Promise 8: or, if it is not refused, less the number of the open one");
        RobotFaults x = Check.robots(1);
        Check.faultsAndResets(x, 0, 0, 38);
        Check.due("fault 39", x.fault(0, 4), 39);
        Check.due("room for one more", x.fault(0, 4), -39);
        Check.due("fault 40", x.fault(0, 5), 40);
        Check.refused("no room", UnsupportedOperationException.class, () -> x.fault(0, 4));
        Check.due("open ones", x.count(3), 2);
    }

    private static void stepOfAFaultThatIsNotThere() {
        Check.about("Promise 9: NoSuchElementException (FAULTS 1, 2, ..)");
        RobotFaults x = Check.robots(1);
        x.fault(0, 0);
        x.fault(0, 3);
        Check.refusedOutside("step(., 0)", 1, 2, NoSuchElementException.class, n -> x.step(n, 0));
        Check.refusedOutside("step(., 8)", 1, 2, NoSuchElementException.class, n -> x.step(n, 8));
        Check.refused("less an open one's number", NoSuchElementException.class, () -> x.step(x.fault(0, 3), 0));
        Check.due("open ones", x.count(3), 2);
        Check.due("steps", x.known(1, 5) + x.known(2, 5), 0);
    }

    private static void stepOfAWrongPerson() {
        Check.about("Promise 9: IllegalArgumentException (PERSONS are 0 .. 7)");
        RobotFaults x = Check.robots(1);
        x.fault(0, 0);
        Check.refusedOutside("step(1, .)", 0, 7, IllegalArgumentException.class, n -> x.step(1, n));
        Check.due("steps", x.known(1, 5), 0);
        Check.due("open", x.known(1, 3), -1);
        x.step(1, 0);
        Check.refusedOutside("step(1, .) of a reset one", 0, 7, IllegalArgumentException.class, n -> x.step(1, n));
    }

    private static void stepOfEachPerson() {
        Check.about("Promise 9: A person's reset step (PERSONS are 0 .. 7)");
        for (int person = 0; person < 8; person++) {
            RobotFaults x = Check.robots(1);
            x.fault(0, 0);
            Check.due("step(1, " + person + ")", x.step(1, person), 1);
            Check.due("steps", x.known(1, 5), 1 << person);
        }
    }

    private static void stepAnswers() {
        Check.about("Promise 9: 1 the fault is reset by it, 0 another person is wanted, 2 this person did one already");
        for (int first = 0; first < 8; first++) {
            RobotFaults x = Check.robots(1);
            x.rule(0, 2, false, 3);
            x.fault(0, 0);
            int other = (first + 1) % 8;
            Check.due("the first", x.step(1, first), 0);
            x.pass(1);
            Check.due("the same", x.step(1, first), 2);
            Check.due("open", x.known(1, 3), -1);
            x.pass(1);
            Check.due("another", x.step(1, other), 1);
            Check.known(x, 1, 0, 0, 0, 2, 0, 1 << first | 1 << other);
        }
    }

    private static void stepOfAResetFault() {
        Check.about("Promise 9: IllegalStateException: it is reset.");
        RobotFaults x = Check.robots(1);
        x.rule(0, 2, false, 3);
        x.fault(0, 0);
        x.step(1, 2);
        x.step(1, 5);
        x.pass(4);
        for (int person = 0; person < 8; person++) {
            int each = person;
            Check.refused("step(1, " + person + ")", IllegalStateException.class, () -> x.step(1, each));
        }
        Check.known(x, 1, 0, 0, 0, 0, 0, 36);
        x.fault(0, 0);
        Check.refused("a later one of its kind is open", IllegalStateException.class, () -> x.step(1, 2));
        Check.due("the later one", x.step(2, 2), 0);
    }

    private static void testOfARobotThatIsNotThere() {
        Check.about("Promise 10: NoSuchElementException");
        RobotFaults x = Check.robotThatIs(1);
        Check.refusedOutside("test(., true)", 0, 0, NoSuchElementException.class, n -> x.test(n, true));
        Check.refusedOutside("test(., false)", 0, 0, NoSuchElementException.class, n -> x.test(n, false));
        Check.due("wants a test", x.told(0, 4), 0);
    }

    private static void testOfOneThatIsGoingOrLost() {
        Check.about("Promise 10: IllegalStateException: it is GOING or LOST");
        int[] states = {0, 2};
        for (int state : states) {
            RobotFaults x = Check.robotThatIs(state);
            Check.refused("good, state " + state, IllegalStateException.class, () -> x.test(0, true));
            Check.refused("bad, state " + state, IllegalStateException.class, () -> x.test(0, false));
            Check.told(x, 0, state, 1, -1, 0, 0);
        }
        RobotFaults y = Check.robots(1);
        y.rule(1, 1, true, 3);
        y.step(y.fault(0, 1), 0);
        Check.refused("lost, and it wants one", IllegalStateException.class, () -> y.test(0, true));
        Check.due("it still does", y.told(0, 4), 1);
    }

    private static void testWithAnOpenFault() {
        Check.about("Promise 10: IllegalStateException: .. or has an open fault.");
        int[] states = {1, 3};
        for (int state : states) {
            RobotFaults x = Check.robotThatIs(state);
            x.rule(7, 2, true, 3);
            x.fault(0, 7);
            Check.refused("good, state " + state, IllegalStateException.class, () -> x.test(0, true));
            Check.refused("bad, state " + state, IllegalStateException.class, () -> x.test(0, false));
            x.step(2, 0);
            Check.refused("one of two made a step", IllegalStateException.class, () -> x.test(0, true));
            Check.due("it wants one", x.told(0, 4), 1);
            x.step(2, 1);
            Check.due("all are reset", x.test(0, true), true);
            Check.told(x, 0, state, 1, -1, 0, 0);
        }
    }

    private static void testThatIsBad() {
        Check.about("Promise 10: With a bad test it wants one, whatever was.");
        int[] states = {1, 3};
        for (int state : states) {
            RobotFaults x = Check.robotThatIs(state);
            Check.due("it wanted none", x.test(0, false), false);
            Check.due("now it does", x.told(0, 4), 1);
            Check.due("it wanted one", x.test(0, false), false);
            Check.due("it still does", x.told(0, 4), 1);
            Check.due("a good one", x.test(0, true), true);
            Check.due("no more", x.told(0, 4), 0);
            Check.due("a good one, and it wanted none", x.test(0, true), true);
            Check.due("still none", x.told(0, 4), 0);
            Check.due("a bad one behind good ones", x.test(0, false), false);
            Check.due("resume(0)", x.resume(0), -3);
            Check.due("state", x.told(0, 0), state);
        }
    }

    private static void resumeOfARobotThatIsNotThere() {
        Check.about("Promise 11: NoSuchElementException");
        RobotFaults x = Check.robotThatIs(1);
        Check.refusedOutside("resume(.)", 0, 0, NoSuchElementException.class, x::resume);
        Check.due("state", x.told(0, 0), 1);
    }

    private static void resumeOfOneThatIsGoing() {
        Check.about("Promise 11: IllegalStateException: it is GOING.");
        RobotFaults x = Check.robotThatIs(0);
        Check.refused("a new one", IllegalStateException.class, () -> x.resume(0));
        Check.faultsAndResets(x, 0, 0, 1);
        Check.due("resume(0)", x.resume(0), 1);
        Check.refused("one that resumed", IllegalStateException.class, () -> x.resume(0));
        Check.due("state", x.told(0, 0), 0);
    }

    private static void resumeTheFirstReasonThatHolds() {
        Check.about("Promise 11: -1 it has open faults, -2 it is LOST, -3 it wants a test (the first that holds)");
        for (int reasons = 0; reasons < 8; reasons++) {
            boolean open = (reasons & 1) != 0;
            boolean lost = (reasons & 2) != 0;
            boolean test = (reasons & 4) != 0;
            RobotFaults x = Check.robots(1);
            x.rule(3, 1, test, 3);
            Check.faultsAndResets(x, 0, 3, 1);
            if (lost) {
                Check.faultsAndResets(x, 0, 1, 1);
            }
            if (open) {
                x.fault(0, 4);
            }
            int want = open ? -1 : lost ? -2 : test ? -3 : 1;
            Check.due("open " + open + ", lost " + lost + ", test " + test, x.resume(0), want);
            Check.told(x, 0, want == 1 ? 0 : lost ? 2 : 1, 0, -1, open ? 16 : 0, test ? 1 : 0);
        }
    }

    private static void zoneOfARobotThatIsNotThere() {
        Check.about("Promise 12: NoSuchElementException");
        RobotFaults x = Check.robotThatIs(2);
        Check.refusedOutside("zone(., 0)", 0, 0, NoSuchElementException.class, n -> x.zone(n, 0));
        Check.refusedOutside("zone(., -1)", 0, 0, NoSuchElementException.class, n -> x.zone(n, -1));
    }

    private static void zoneBelowZero() {
        Check.about("Promise 12: IllegalArgumentException: i is below 0");
        int[] below = {-1, -2, -31, -32, -65536, Integer.MIN_VALUE};
        for (int state = 0; state < 4; state++) {
            RobotFaults x = Check.robotThatIs(state);
            for (int i : below) {
                Check.refused("state " + state + ", i " + i, IllegalArgumentException.class, () -> x.zone(0, i));
            }
        }
    }

    private static void zoneOfOneThatIsNotLost() {
        Check.about("Promise 12: IllegalStateException: it is not LOST.");
        int[] states = {0, 1, 3};
        for (int state : states) {
            RobotFaults x = Check.robotThatIs(state);
            Check.refused("i 0, state " + state, IllegalStateException.class, () -> x.zone(0, 0));
            Check.refused("i max, state " + state, IllegalStateException.class, () -> x.zone(0, Integer.MAX_VALUE));
        }
        RobotFaults y = Check.robots(1);
        y.fault(0, 1);
        y.found(0, 0);
        Check.refused("found, its fault still open", IllegalStateException.class, () -> y.zone(0, 0));
    }

    private static void zoneBehindTheLast() {
        Check.about("Promise 12: The i-th piece (upward) ..; -1 if there are not so many.");
        RobotFaults x = Check.robotThatIs(2);
        x.pass(10);
        int[] behind = {3, 4, 19, 20, 31, 32, 33, 64, 65536, Integer.MAX_VALUE};
        for (int i : behind) {
            Check.due("zone(0, " + i + ")", x.zone(0, i), -1);
        }
        for (int i = 0; i < 3; i++) {
            Check.due("zone(0, " + i + ")", x.zone(0, i), i);
        }
    }

    private static void foundOfWhatIsNotThere() {
        Check.about("Promise 13: NoSuchElementException");
        for (int state = 0; state < 4; state++) {
            RobotFaults x = Check.robotThatIs(state);
            x.pass(1000);
            Check.refusedOutside("found(., 0)", 0, 0, NoSuchElementException.class, n -> x.found(n, 0));
            Check.refusedOutside("found(0, .)", 0, 2, NoSuchElementException.class, n -> x.found(0, n));
            Check.told(x, 0, state, 1);
        }
    }

    private static void foundOfOneThatIsNotLost() {
        Check.about("Promise 13: IllegalStateException: it is not LOST");
        int[] states = {0, 1, 3};
        for (int state : states) {
            RobotFaults x = Check.robotThatIs(state);
            x.pass(1000);
            for (int piece = 0; piece < 3; piece++) {
                int at = piece;
                Check.refused("state " + state, IllegalStateException.class, () -> x.found(0, at));
            }
            Check.told(x, 0, state, 1);
        }
    }

    private static void foundWhereItMayNotBe() {
        Check.about("Promise 13: IllegalStateException: .. or may not be there.");
        RobotFaults x = Check.row(3);
        x.piece();
        x.robot(0);
        x.fault(0, 1);
        Check.refused("at once, a link away", IllegalStateException.class, () -> x.found(0, 1));
        x.pass(19);
        Check.refused("two links, 19 seconds", IllegalStateException.class, () -> x.found(0, 2));
        Check.refused("no link", IllegalStateException.class, () -> x.found(0, 3));
        Check.told(x, 0, 2, 0);
        Check.zone(x, 0, 0, 1);
        x.pass(1);
        Check.due("two links, 20 seconds", x.found(0, 2), 2);
        Check.told(x, 0, 1, 2);
    }

    private static void foundOverTheFewestLinks() {
        Check.about("Promise 13: how many links it is from its last piece (the fewest)");
        for (int piece = 0; piece < 20; piece++) {
            RobotFaults x = Check.row(20);
            x.link(0, 19);
            x.robot(0);
            x.fault(0, 1);
            x.pass(1000);
            Check.due("found(0, " + piece + ")", x.found(0, piece), Math.min(piece, 20 - piece));
            Check.told(x, 0, 1, piece, -1, 2, 0);
        }
        RobotFaults y = Check.row(20);
        y.robot(19);
        y.fault(0, 1);
        y.pass(190);
        Check.due("the whole row", y.found(0, 0), 19);
    }

    private static void towOfWhatIsNotThere() {
        Check.about("Promise 14: NoSuchElementException");
        for (int state = 0; state < 4; state++) {
            RobotFaults x = Check.robotThatIs(state);
            Check.refusedOutside("tow(., 0)", 0, 0, NoSuchElementException.class, n -> x.tow(n, 0));
            Check.refusedOutside("tow(0, .)", 0, 2, NoSuchElementException.class, n -> x.tow(0, n));
            Check.told(x, 0, state, 1);
        }
    }

    private static void towOfOneThatIsGoingOrLost() {
        Check.about("Promise 14: IllegalStateException: it is neither.");
        int[] states = {0, 2};
        for (int state : states) {
            RobotFaults x = Check.robotThatIs(state);
            for (int piece = 0; piece < 3; piece++) {
                int to = piece;
                Check.refused("state " + state, IllegalStateException.class, () -> x.tow(0, to));
            }
            Check.told(x, 0, state, 1);
        }
    }

    private static void towToEachPiece() {
        Check.about("Promise 14: A STOPPED or TOWED robot is towed to a piece: it is TOWED.");
        int[] states = {1, 3};
        for (int state : states) {
            for (int piece = 0; piece < 4; piece++) {
                RobotFaults x = Check.robotThatIs(state);
                x.piece();
                x.tow(0, piece);
                Check.told(x, 0, 3, piece, -1, 0, 0);
            }
        }
        RobotFaults y = Check.robots(1);
        y.load(0, 9);
        y.fault(0, 3);
        y.tow(0, 0);
        Check.told(y, 0, 3, 0, 9, 8, 0);
    }
}
