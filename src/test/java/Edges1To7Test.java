import java.util.NoSuchElementException;

/** The edges that promises 1 to 7 name, in their order; each method tests the sentence that it quotes. */
public final class Edges1To7Test {
    public static void main(String[] args) {
        nothingThere();
        second0();
        pieceNumbers();
        pieceFull();
        linkOfPiecesThatAreNotThere();
        linkOfTheSame();
        linkAgain();
        robotOnAPieceThatIsNotThere();
        robotFull();
        robotIsGoingWithNoUnit();
        ruleOutside();
        ruleAtTheEnds();
        ruleThatIsRefusedChangesNothing();
        moveOfWhatIsNotThere();
        moveOfOneThatIsNotGoing();
        moveWhereNoLinkLeads();
        loadOfARobotThatIsNotThere();
        loadOutside();
        loadAtTheEnds();
        loadOfALostOne();
        Check.end();
    }

    private static void nothingThere() {
        Check.about("Promise 1: Nothing there");
        RobotFaults x = new RobotFaults();
        Class<NoSuchElementException> none = NoSuchElementException.class;
        for (int i = 0; i < 2; i++) {
            int n = i;
            Check.refused("link", none, () -> x.link(n, 1 - n));
            Check.refused("robot", none, () -> x.robot(n));
            Check.refused("move", none, () -> x.move(n, n));
            Check.refused("load", none, () -> x.load(n, n));
            Check.refused("fault", none, () -> x.fault(n, n));
            Check.refused("step", none, () -> x.step(n, n));
            Check.refused("test", none, () -> x.test(n, true));
            Check.refused("resume", none, () -> x.resume(n));
            Check.refused("zone", none, () -> x.zone(n, n));
            Check.refused("found", none, () -> x.found(n, n));
            Check.refused("tow", none, () -> x.tow(n, n));
            Check.refused("plant", none, () -> x.plant(n, n, 1));
            Check.refused("acknowledge", none, () -> x.acknowledge(n, n));
            Check.refused("alarm", none, () -> x.alarm(n, n));
            Check.refused("known", none, () -> x.known(n, n));
            Check.refused("told", none, () -> x.told(n, n));
        }
        Check.counts(x, 0, 0, 0, 0, 0, 0, 0, 0, 0);
        Check.due("first()", x.first(), -1);
        Check.due("pass(1000)", x.pass(1000), 0);
    }

    private static void second0() {
        Check.about("Promise 1: second 0");
        RobotFaults x = Check.robots(1);
        Check.due("time", x.count(6), 0);
        x.fault(0, 0);
        Check.due("second of a fault", x.known(1, 2), 0);
    }

    private static void pieceNumbers() {
        Check.about("Promise 2: A piece: its number.");
        RobotFaults x = new RobotFaults();
        for (int i = 0; i < 20; i++) {
            Check.due("piece()", x.piece(), i);
        }
        RobotFaults y = new RobotFaults();
        Check.due("the first of another object", y.piece(), 0);
    }

    private static void pieceFull() {
        Check.about("Promise 2: UnsupportedOperationException (at most 20)");
        RobotFaults x = Check.row(20);
        for (int i = 0; i < 3; i++) {
            Check.refused("piece()", UnsupportedOperationException.class, x::piece);
            Check.due("pieces", x.count(0), 20);
        }
        Check.refused("robot(20)", NoSuchElementException.class, () -> x.robot(20));
        Check.due("a robot on the last", x.robot(19), 0);
        x.move(0, 18);
        Check.due("its piece", x.told(0, 1), 18);
    }

    private static void linkOfPiecesThatAreNotThere() {
        Check.about("Promise 3: NoSuchElementException");
        RobotFaults x = Check.row(3);
        Check.refusedOutside("link(0, .)", 0, 2, NoSuchElementException.class, n -> x.link(0, n));
        Check.refusedOutside("link(., 0)", 0, 2, NoSuchElementException.class, n -> x.link(n, 0));
        Check.refusedOutside("link(., .) the same", 0, 2, NoSuchElementException.class, n -> x.link(n, n));
        x.robot(0);
        x.piece();
        Check.refused("a link with a piece that was not there then", IllegalStateException.class,
                () -> x.move(0, 3));
    }

    private static void linkOfTheSame() {
        Check.about("Promise 3: IllegalArgumentException: the same.");
        RobotFaults x = Check.row(20);
        for (int i = 0; i < 20; i++) {
            int piece = i;
            Check.refused("link(" + i + ", " + i + ")", IllegalArgumentException.class, () -> x.link(piece, piece));
        }
        x.robot(7);
        Check.refused("a move to its own piece", IllegalStateException.class, () -> x.move(0, 7));
    }

    private static void linkAgain() {
        Check.about("Promise 3: Two pieces are linked.");
        RobotFaults x = Check.row(2);
        x.link(0, 1);
        x.link(1, 0);
        x.robot(0);
        x.move(0, 1);
        x.move(0, 0);
        x.fault(0, 1);
        x.pass(10);
        Check.zone(x, 0, 0, 1);
        Check.due("still one link", x.found(0, 1), 1);
    }

    private static void robotOnAPieceThatIsNotThere() {
        Check.about("Promise 4: NoSuchElementException");
        RobotFaults x = Check.row(3);
        Check.refusedOutside("robot(.)", 0, 2, NoSuchElementException.class, x::robot);
        Check.due("robots", x.count(1), 0);
        Check.due("the first that there is", x.robot(2), 0);
    }

    private static void robotFull() {
        Check.about("Promise 4: UnsupportedOperationException (at most 8)");
        RobotFaults x = Check.row(2);
        for (int i = 0; i < 8; i++) {
            Check.due("robot()", x.robot(i % 2), i);
        }
        Check.refused("robot(0)", UnsupportedOperationException.class, () -> x.robot(0));
        Check.refused("robot(1)", UnsupportedOperationException.class, () -> x.robot(1));
        Check.refusedOutside("no piece comes before no room", 0, 1, NoSuchElementException.class, x::robot);
        Check.due("robots", x.count(1), 8);
        Check.refused("told(8, 0)", NoSuchElementException.class, () -> x.told(8, 0));
        Check.told(x, 7, 0, 1, -1, 0, 0);
    }

    private static void robotIsGoingWithNoUnit() {
        Check.about("Promise 4: A robot on a piece, GOING, with no unit");
        RobotFaults x = Check.row(2);
        x.rule(0, 1, true, 1);
        x.robot(0);
        x.load(0, 5);
        x.fault(0, 0);
        x.robot(1);
        Check.told(x, 1, 0, 1, -1, 0, 0);
        x.move(1, 0);
        Check.refused("no load to lose", IllegalStateException.class, () -> x.fault(1, 2));
    }

    private static void ruleOutside() {
        Check.about("Promise 5: IllegalArgumentException.");
        RobotFaults x = Check.robots(1);
        Class<IllegalArgumentException> wrong = IllegalArgumentException.class;
        Check.refusedOutside("rule(., 1, true, 1)", 0, 7, wrong, n -> x.rule(n, 1, true, 1));
        Check.refusedOutside("rule(0, ., true, 1)", 1, 2, wrong, n -> x.rule(0, n, true, 1));
        Check.refusedOutside("rule(0, 1, true, .)", 1, 5, wrong, n -> x.rule(0, 1, true, n));
        Check.refusedOutside("rule(., ., true, .)", 0, 7, wrong, n -> x.rule(n, n, true, n));
    }

    private static void ruleAtTheEnds() {
        Check.about("Promise 5: how many PERSONS (1 or 2) .., a RANK 1 .. 5");
        int[] kinds = {0, 7};
        for (int kind : kinds) {
            for (int rank = 1; rank <= 5; rank++) {
                for (int persons = 1; persons <= 2; persons++) {
                    RobotFaults x = Check.robots(1);
                    x.rule(kind, persons, rank % 2 == 0, rank);
                    x.fault(0, kind);
                    Check.due("rank", x.alarm(0, 2), rank);
                    Check.due("test", x.told(0, 4), 1 - rank % 2);
                    Check.due("the first step", x.step(1, 0), persons == 1 ? 1 : 0);
                }
            }
        }
    }

    private static void ruleThatIsRefusedChangesNothing() {
        Check.about("Promise 5: A kind's rule, for faults that come. IllegalArgumentException.");
        RobotFaults x = Check.robots(1);
        x.rule(4, 2, false, 5);
        Class<IllegalArgumentException> wrong = IllegalArgumentException.class;
        Check.refused("a wrong rank", wrong, () -> x.rule(4, 1, true, 6));
        Check.refused("a wrong number of persons", wrong, () -> x.rule(4, 3, true, 1));
        Check.refused("a wrong kind", wrong, () -> x.rule(4 + 32, 1, true, 1));
        x.fault(0, 4);
        Check.due("rank", x.alarm(0, 2), 5);
        Check.due("test", x.told(0, 4), 0);
        Check.due("persons", x.step(1, 0), 0);
    }

    private static void moveOfWhatIsNotThere() {
        Check.about("Promise 6: NoSuchElementException");
        for (int state = 0; state < 4; state++) {
            RobotFaults x = Check.robotThatIs(state);
            Check.refusedOutside("move(., 0)", 0, 0, NoSuchElementException.class, n -> x.move(n, 0));
            Check.refusedOutside("move(0, .)", 0, 2, NoSuchElementException.class, n -> x.move(0, n));
            Check.told(x, 0, state, 1);
        }
    }

    private static void moveOfOneThatIsNotGoing() {
        Check.about("Promise 6: IllegalStateException: it is not GOING");
        for (int state = 1; state < 4; state++) {
            RobotFaults x = Check.robotThatIs(state);
            for (int piece = 0; piece < 3; piece++) {
                int to = piece;
                Check.refused("state " + state + ", to " + piece, IllegalStateException.class, () -> x.move(0, to));
            }
            Check.told(x, 0, state, 1);
        }
    }

    private static void moveWhereNoLinkLeads() {
        Check.about("Promise 6: IllegalStateException: .. or they are not linked.");
        RobotFaults x = Check.row(4);
        x.robot(1);
        Check.refused("two links", IllegalStateException.class, () -> x.move(0, 3));
        Check.refused("its own piece", IllegalStateException.class, () -> x.move(0, 1));
        Check.told(x, 0, 0, 1);
        x.move(0, 2);
        x.move(0, 3);
        Check.refused("a link that another piece has", IllegalStateException.class, () -> x.move(0, 1));
        Check.told(x, 0, 0, 3);
    }

    private static void loadOfARobotThatIsNotThere() {
        Check.about("Promise 7: NoSuchElementException");
        RobotFaults x = Check.robots(2);
        Check.refusedOutside("load(., 5)", 0, 1, NoSuchElementException.class, n -> x.load(n, 5));
        Check.refusedOutside("load(., 100)", 0, 1, NoSuchElementException.class, n -> x.load(n, 100));
        Check.due("unit of 0", x.told(0, 2), -1);
        Check.due("unit of 1", x.told(1, 2), -1);
    }

    private static void loadOutside() {
        Check.about("Promise 7: IllegalArgumentException (a UNIT 0 .. 99; -1: none)");
        for (int state = 0; state < 4; state++) {
            RobotFaults x = Check.robotThatIs(state);
            Check.refusedOutside("load(0, .)", -1, 99, IllegalArgumentException.class, n -> x.load(0, n));
            Check.due("unit", x.told(0, 2), -1);
        }
    }

    private static void loadAtTheEnds() {
        Check.about("Promise 7: A robot carries a unit; -1: none.");
        int[] states = {0, 1, 3};
        int[] units = {-1, 0, 99, 0, -1, -1, 99, 99, 50};
        for (int state : states) {
            RobotFaults x = Check.robotThatIs(state);
            for (int unit : units) {
                x.load(0, unit);
                Check.due("unit, state " + state, x.told(0, 2), unit);
            }
            Check.due("state", x.told(0, 0), state);
        }
    }

    private static void loadOfALostOne() {
        Check.about("Promise 7: IllegalStateException: it is LOST.");
        RobotFaults x = Check.robots(1);
        x.load(0, 3);
        x.fault(0, 1);
        int[] units = {-1, 0, 3, 99};
        for (int unit : units) {
            Check.refused("load(0, " + unit + ")", IllegalStateException.class, () -> x.load(0, unit));
            Check.due("unit", x.told(0, 2), 3);
        }
        x.found(0, 0);
        x.load(0, -1);
        Check.due("found: it can be unloaded, its fault still open", x.told(0, 2), -1);
    }
}
