import java.util.NoSuchElementException;

/** The edges that promises 15 to 22 name, in their order; each method tests the sentence that it quotes. */
public final class Edges15To22Test {
    public static void main(String[] args) {
        plantOnARobotThatIsNotThere();
        plantOutside();
        plantAtTheEnds();
        plantIfItCanThen();
        tenArePlanted();
        tenToCome();
        passOutside();
        passBehindTheEnd();
        passNoSeconds();
        plantedInTheirOrder();
        plantedThatAreRefusedAreGone();
        plantedThatJoinAnOpenOneAreGone();
        plantedWithoutRoomAreGone();
        plantedFirstThenAlarms();
        levelsOfAll();
        acknowledgeOfAnAlarmThatIsNotThere();
        acknowledgeByAWrongPerson();
        acknowledgeBySomebodyElse();
        acknowledgeAnswersTheLevel();
        alarmThatIsNotThere();
        alarmOfAWrongWhat();
        alarmWithNobody();
        knownThatIsNotThere();
        knownOfAWrongWhat();
        knownAtItsEnds();
        toldThatIsNotThere();
        toldOfAWrongWhat();
        toldOfALostOne();
        firstOfNone();
        firstByEachReason();
        countOfAnotherWhat();
        countOpenSeconds();
        countPlantedOnes();
        Check.end();
    }

    private static void plantOnARobotThatIsNotThere() {
        Check.about("Promise 15: NoSuchElementException");
        RobotFaults x = Check.robots(2);
        Check.refusedOutside("plant(., 0, 1)", 0, 1, NoSuchElementException.class, n -> x.plant(n, 0, 1));
        Check.refusedOutside("plant(., 8, 0)", 0, 1, NoSuchElementException.class, n -> x.plant(n, 8, 0));
        Check.due("planted", x.count(8), 0);
    }

    private static void plantOutside() {
        Check.about("Promise 15: IllegalArgumentException (KINDS 0 .. 7, seconds 1 .. 1000)");
        RobotFaults x = Check.robots(1);
        Class<IllegalArgumentException> wrong = IllegalArgumentException.class;
        Check.refusedOutside("plant(0, ., 1)", 0, 7, wrong, n -> x.plant(0, n, 1));
        Check.refusedOutside("plant(0, 0, .)", 1, 1000, wrong, n -> x.plant(0, 0, n));
        Check.due("planted", x.count(8), 0);
        x.pass(1000);
        Check.due("faults", x.count(2), 0);
        Check.refusedOutside("plant(0, 0, .) later", 1, 1000, wrong, n -> x.plant(0, 0, n));
    }

    private static void plantAtTheEnds() {
        Check.about("Promise 15: it will come .. in so many seconds (1 .. 1000)");
        RobotFaults x = Check.robots(1);
        x.pass(3);
        x.plant(0, 0, 1);
        x.plant(0, 7, 1000);
        Check.due("none yet", x.count(2), 0);
        x.pass(1);
        Check.due("the next second", x.told(0, 3), 1);
        Check.due("second", x.known(1, 2), 4);
        x.pass(998);
        Check.due("999 seconds", x.told(0, 3), 1);
        x.pass(1);
        Check.due("1000 seconds", x.told(0, 3), 129);
        Check.due("second of the other", x.known(2, 2), 1003);
    }

    private static void plantIfItCanThen() {
        Check.about("Promise 15: it will come (as fault() does) in so many seconds (1 .. 1000), if it can then");
        RobotFaults x = Check.robots(2);
        x.plant(0, 2, 5);
        x.plant(1, 2, 5);
        x.load(1, 8);
        x.pass(4);
        x.load(0, 0);
        x.load(1, -1);
        x.pass(1);
        Check.due("it carries one then", x.known(1, 8), 0);
        Check.due("planted", x.known(1, 6), 1);
        Check.told(x, 0, 1, 0, -1, 4, 0);
        Check.told(x, 1, 0, 0, -1, 0, 0);
        Check.due("faults", x.count(2), 1);
    }

    private static void tenArePlanted() {
        Check.about("Promise 15: UnsupportedOperationException: ten are planted and to come.");
        RobotFaults x = Check.robots(1);
        for (int i = 1; i <= 10; i++) {
            x.plant(0, 0, 1000);
            Check.due("planted", x.count(8), i);
        }
        Check.refused("an eleventh", UnsupportedOperationException.class, () -> x.plant(0, 0, 1));
        Check.refusedOutside("a wrong kind comes before no room", 0, 7, IllegalArgumentException.class,
                n -> x.plant(0, n, 1));
        Check.refusedOutside("wrong seconds come before no room", 1, 1000, IllegalArgumentException.class,
                n -> x.plant(0, 0, n));
        Check.refusedOutside("no robot comes before no room", 0, 0, NoSuchElementException.class,
                n -> x.plant(n, 0, 1));
        Check.due("planted", x.count(8), 10);
        x.pass(999);
        Check.due("no fault came", x.count(2), 0);
        Check.refused("an eleventh, still", UnsupportedOperationException.class, () -> x.plant(0, 0, 1));
    }

    private static void tenToCome() {
        Check.about("Promise 15: UnsupportedOperationException: ten are planted and to come.");
        RobotFaults x = Check.robots(1);
        for (int i = 1; i <= 10; i++) {
            x.plant(0, i % 2 == 0 ? 2 : 0, i);
        }
        for (int i = 0; i < 10; i++) {
            x.pass(1);
            Check.due("one less, whatever came of it", x.count(8), 9);
            x.plant(0, 5, 1000);
            Check.refused("ten again", UnsupportedOperationException.class, () -> x.plant(0, 5, 1000));
        }
        Check.due("faults", x.count(2), 1);
        x.pass(1000);
        Check.due("all came", x.count(8), 0);
        Check.due("faults then", x.count(2), 2);
    }

    private static void passOutside() {
        Check.about("Promise 16: So many seconds (0 .. 1000) .. IllegalArgumentException");
        RobotFaults x = Check.robots(1);
        x.plant(0, 0, 1);
        Check.refusedOutside("pass(.)", 0, 1000, IllegalArgumentException.class, x::pass);
        Check.counts(x, 1, 1, 0, 0, 0, 0, 0, 0, 1);
        x.pass(1000);
        Check.refusedOutside("pass(.) later", 0, 1000, IllegalArgumentException.class, x::pass);
        Check.counts(x, 1, 1, 1, 1, 1, 1, 1000, 999, 0);
    }

    private static void passBehindTheEnd() {
        Check.about("Promise 16: IllegalArgumentException: also if it would be behind 100000.");
        RobotFaults x = Check.robots(1);
        Check.passAll(x, 99001);
        x.fault(0, 0);
        x.plant(0, 3, 999);
        x.plant(0, 4, 1000);
        Check.refused("pass(1000)", IllegalArgumentException.class, () -> x.pass(1000));
        Check.counts(x, 1, 1, 1, 1, 1, 1, 99001, 0, 2);
        Check.due("level", x.alarm(0, 3), 0);
        Check.due("pass(999)", x.pass(999), 3);
        Check.counts(x, 1, 1, 2, 2, 2, 2, 100000, 999, 1);
        Check.refusedOutside("pass(.)", 0, 0, IllegalArgumentException.class, x::pass);
        Check.due("pass(0)", x.pass(0), 0);
        Check.counts(x, 1, 1, 2, 2, 2, 2, 100000, 999, 1);
    }

    private static void passNoSeconds() {
        Check.about("Promise 16: So many seconds (0 .. 1000) go by");
        RobotFaults x = Check.robots(1);
        x.fault(0, 0);
        x.plant(0, 3, 1);
        Check.due("pass(0)", x.pass(0), 0);
        Check.counts(x, 1, 1, 1, 1, 1, 1, 0, 0, 1);
        x.pass(30);
        Check.due("level", x.alarm(0, 3), 1);
        Check.due("pass(0) in a second in which it rose", x.pass(0), 0);
        Check.due("level then", x.alarm(0, 3), 1);
    }

    private static void plantedInTheirOrder() {
        Check.about("Promise 16: first the planted faults come, in the order in which they were planted");
        RobotFaults x = Check.robots(1);
        int[] kinds = {7, 0, 5, 3, 6, 4};
        for (int i = 0; i < kinds.length; i++) {
            x.plant(0, kinds[i], 10 - i);
            x.pass(1);
        }
        x.pass(4);
        for (int i = 0; i < kinds.length; i++) {
            Check.known(x, i + 1, 0, kinds[i], 10, -1, i, 0, 1);
        }
        Check.due("the last planted, the soonest", soonest(), 4);
    }

    private static int soonest() {
        RobotFaults x = Check.robots(1);
        x.plant(0, 3, 2);
        x.plant(0, 4, 1);
        x.pass(2);
        return x.known(1, 1);
    }

    private static void plantedThatAreRefusedAreGone() {
        Check.about("Promise 16: (one that is refused, .. is gone)");
        RobotFaults x = Check.robots(1);
        x.load(0, 6);
        x.plant(0, 2, 5);
        x.plant(0, 2, 5);
        x.plant(0, 2, 6);
        x.pass(5);
        Check.due("one lost the load, one is refused", x.count(8), 1);
        Check.due("faults", x.count(2), 1);
        x.pass(1);
        Check.due("the next is refused too", x.count(8), 0);
        x.step(1, 0);
        x.load(0, 6);
        Check.due("pass(1000)", x.pass(1000), 0);
        Check.counts(x, 1, 1, 1, 0, 1, 1, 1006, 1, 0);
        Check.due("unit", x.told(0, 2), 6);
    }

    private static void plantedThatJoinAnOpenOneAreGone() {
        Check.about("Promise 16: (one that .. joins an open one, is gone)");
        RobotFaults x = Check.robots(1);
        x.fault(0, 0);
        x.acknowledge(0, 3);
        x.rule(0, 1, true, 1);
        x.plant(0, 0, 5);
        x.pass(5);
        Check.due("planted", x.count(8), 0);
        Check.alarm(x, 0, 0, 0, 3, 0, 1, 3, 0);
        Check.known(x, 1, 0, 0, 0, -1, 0, 0, 0, 0, -1);
        Check.due("wants a test", x.told(0, 4), 0);
        x.step(1, 0);
        x.pass(1000);
        Check.due("faults", x.count(2), 1);
    }

    private static void plantedWithoutRoomAreGone() {
        Check.about("Promise 16: (one that is refused, .. is gone)");
        RobotFaults x = Check.robots(2);
        Check.faultsAndResets(x, 0, 0, 39);
        x.load(1, 5);
        x.plant(0, 4, 1);
        x.plant(1, 2, 1);
        x.plant(1, 1, 1);
        x.pass(1);
        Check.counts(x, 1, 2, 40, 1, 2, 2, 1, 0, 0);
        Check.told(x, 0, 1, 0, -1, 16, 0);
        Check.told(x, 1, 0, 0, 5, 0, 0);
    }

    private static void plantedFirstThenAlarms() {
        Check.about("Promise 16: in each first the planted faults come .., then alarms rise");
        RobotFaults x = Check.robots(1);
        x.fault(0, 0);
        x.pass(15);
        x.step(1, 0);
        x.plant(0, 0, 15);
        Check.due("joined in the 30th second behind the first", x.pass(15), 0);
        Check.alarm(x, 0, 0, 0, 3, 0, 2, -1, 30);
        x.plant(0, 0, 30);
        Check.due("an open one joined in its 30th second", x.pass(30), 1);
        x.acknowledge(0, 0);
        x.step(2, 0);
        x.plant(0, 0, 30);
        Check.due("one that joins takes the person away", x.pass(30), 0);
        Check.alarm(x, 0, 0, 0, 3, 1, 3, -1, 90);
        Check.due("and it rises again", x.pass(30), 1);
    }

    private static void levelsOfAll() {
        Check.about("Promise 16: how many levels all rose");
        RobotFaults x = Check.robots(8);
        for (int i = 0; i < 40; i++) {
            x.fault(i / 5, 3 + i % 5);
        }
        Check.due("29 seconds", x.pass(29), 0);
        Check.due("the 30th", x.pass(1), 40);
        Check.due("up to the 89th", x.pass(59), 40);
        Check.due("the 90th and on", x.pass(1000), 40);
        Check.due("no more", x.pass(1000), 0);
        RobotFaults y = Check.robots(1);
        y.plant(0, 3, 970);
        y.plant(0, 4, 971);
        Check.due("the last second counts, the next does not", y.pass(1000), 1);
    }

    private static void acknowledgeOfAnAlarmThatIsNotThere() {
        Check.about("Promise 17: NoSuchElementException");
        RobotFaults x = Check.robots(1);
        x.fault(0, 0);
        x.fault(0, 3);
        Check.refusedOutside("acknowledge(., 0)", 0, 1, NoSuchElementException.class, n -> x.acknowledge(n, 0));
        Check.refusedOutside("acknowledge(., 8)", 0, 1, NoSuchElementException.class, n -> x.acknowledge(n, 8));
        Check.due("those not acknowledged", x.count(5), 2);
    }

    private static void acknowledgeByAWrongPerson() {
        Check.about("Promise 17: IllegalArgumentException (PERSONS are 0 .. 7)");
        RobotFaults x = Check.robots(1);
        x.fault(0, 0);
        Check.refusedOutside("acknowledge(0, .)", 0, 7, IllegalArgumentException.class, n -> x.acknowledge(0, n));
        Check.due("nobody did", x.alarm(0, 5), -1);
        x.acknowledge(0, 7);
        Check.refusedOutside("acknowledge(0, .) then", 0, 7, IllegalArgumentException.class,
                n -> x.acknowledge(0, n));
        Check.due("person 7 did", x.alarm(0, 5), 7);
    }

    private static void acknowledgeBySomebodyElse() {
        Check.about("Promise 17: IllegalStateException: somebody did.");
        for (int first = 0; first < 8; first++) {
            RobotFaults x = Check.robots(1);
            x.fault(0, 0);
            x.acknowledge(0, first);
            for (int person = 0; person < 8; person++) {
                int each = person;
                Check.refused(first + ", then " + person, IllegalStateException.class, () -> x.acknowledge(0, each));
            }
            Check.due("the person stays", x.alarm(0, 5), first);
        }
    }

    private static void acknowledgeAnswersTheLevel() {
        Check.about("Promise 17: A person acknowledges an alarm: its level.");
        for (int level = 0; level <= 3; level++) {
            RobotFaults x = Check.robots(1);
            x.fault(0, 0);
            x.pass(30 * level);
            Check.due("acknowledge(0, 0)", x.acknowledge(0, 0), level);
            Check.due("no rise then", x.pass(1000), 0);
            Check.alarm(x, 0, 0, 0, 3, level, 1, 0, 0);
        }
    }

    private static void alarmThatIsNotThere() {
        Check.about("Promise 18: NoSuchElementException");
        RobotFaults x = Check.robots(1);
        x.fault(0, 0);
        x.fault(0, 3);
        Check.refusedOutside("alarm(., 0)", 0, 1, NoSuchElementException.class, n -> x.alarm(n, 0));
        Check.refusedOutside("alarm(., 7)", 0, 1, NoSuchElementException.class, n -> x.alarm(n, 7));
    }

    private static void alarmOfAWrongWhat() {
        Check.about("Promise 18: IllegalArgumentException (Of an alarm 0 .. 6)");
        RobotFaults x = Check.robots(1);
        x.fault(0, 0);
        Check.refusedOutside("alarm(0, .)", 0, 6, IllegalArgumentException.class, n -> x.alarm(0, n));
    }

    private static void alarmWithNobody() {
        Check.about("Promise 18: 5 the person that acknowledged it (-1 none)");
        RobotFaults x = Check.robots(1);
        x.fault(0, 0);
        Check.alarm(x, 0, 0, 0, 3, 0, 1, -1, 0);
        x.acknowledge(0, 0);
        Check.alarm(x, 0, 0, 0, 3, 0, 1, 0, 0);
    }

    private static void knownThatIsNotThere() {
        Check.about("Promise 19: NoSuchElementException");
        RobotFaults x = Check.robots(1);
        x.fault(0, 0);
        x.fault(0, 3);
        Check.refusedOutside("known(., 0)", 1, 2, NoSuchElementException.class, n -> x.known(n, 0));
        Check.refusedOutside("known(., 9)", 1, 2, NoSuchElementException.class, n -> x.known(n, 9));
    }

    private static void knownOfAWrongWhat() {
        Check.about("Promise 19: IllegalArgumentException (Of a fault 0 .. 8)");
        RobotFaults x = Check.robots(1);
        x.fault(0, 0);
        Check.refusedOutside("known(1, .)", 0, 8, IllegalArgumentException.class, n -> x.known(1, n));
    }

    private static void knownAtItsEnds() {
        Check.about("Promise 19: 3 the second when it was reset (-1 open), .. 8 the unit lost by it (-1 none)");
        RobotFaults x = Check.robots(1);
        x.fault(0, 0);
        Check.known(x, 1, 0, 0, 0, -1, 0, 0, 0, 0, -1);
        x.step(1, 0);
        Check.known(x, 1, 0, 0, 0, 0, 0, 1, 0, 0, -1);
        x.load(0, 0);
        x.fault(0, 2);
        Check.known(x, 2, 0, 2, 0, -1, 1, 0, 0, 0, 0);
    }

    private static void toldThatIsNotThere() {
        Check.about("Promise 20: NoSuchElementException");
        RobotFaults x = Check.robots(2);
        Check.refusedOutside("told(., 0)", 0, 1, NoSuchElementException.class, n -> x.told(n, 0));
        Check.refusedOutside("told(., 5)", 0, 1, NoSuchElementException.class, n -> x.told(n, 5));
    }

    private static void toldOfAWrongWhat() {
        Check.about("Promise 20: IllegalArgumentException (Of a robot 0 .. 4)");
        for (int state = 0; state < 4; state++) {
            RobotFaults x = Check.robotThatIs(state);
            Check.refusedOutside("told(0, .)", 0, 4, IllegalArgumentException.class, n -> x.told(0, n));
        }
    }

    private static void toldOfALostOne() {
        Check.about("Promise 20: 1 piece (its last one, if it is LOST), 2 unit (-1 none)");
        RobotFaults x = Check.row(3);
        x.robot(0);
        x.load(0, 0);
        x.move(0, 1);
        x.fault(0, 1);
        x.pass(1000);
        Check.told(x, 0, 2, 1, 0, 2, 0);
        x.found(0, 2);
        Check.told(x, 0, 1, 2, 0, 2, 0);
    }

    private static void firstOfNone() {
        Check.about("Promise 21: -1 if all are.");
        RobotFaults x = Check.robots(1);
        Check.due("no alarm at all", x.first(), -1);
        x.fault(0, 0);
        x.fault(0, 3);
        x.acknowledge(0, 0);
        Check.due("one of two", x.first(), 1);
        x.acknowledge(1, 0);
        Check.due("both", x.first(), -1);
        x.step(1, 0);
        Check.due("a reset changes nothing", x.first(), -1);
        x.fault(0, 0);
        Check.due("one joined", x.first(), 0);
    }

    private static void firstByEachReason() {
        Check.about("Promise 21: the greatest level, then the least rank number, then the lowest");
        RobotFaults x = Check.robots(1);
        int[] ranks = {5, 3, 1, 1, 5};
        for (int i = 0; i < ranks.length; i++) {
            x.rule(3 + i, 1, false, ranks[i]);
        }
        x.fault(0, 3);
        x.pass(30);
        for (int kind = 4; kind < 8; kind++) {
            x.fault(0, kind);
        }
        int[] order = {0, 2, 3, 1, 4};
        for (int want : order) {
            Check.due("first()", x.first(), want);
            x.acknowledge(want, 0);
        }
        Check.due("first() at last", x.first(), -1);
    }

    private static void countOfAnotherWhat() {
        Check.about("Promise 22: -1 for another what.");
        int[] others = {-1, 9, 10, -32, 32, 40, 256, -65536, 65536, Integer.MIN_VALUE, Integer.MAX_VALUE};
        RobotFaults x = Check.robots(1);
        x.fault(0, 0);
        for (int what : others) {
            Check.due("count(" + what + ")", x.count(what), -1);
            Check.due("count(" + what + ") of a new object", new RobotFaults().count(what), -1);
        }
    }

    private static void countOpenSeconds() {
        Check.about("Promise 22: 7 seconds that all faults were open together (so far)");
        RobotFaults x = Check.robots(1);
        Check.faultsAndResets(x, 0, 0, 1);
        Check.due("reset in its second", x.count(7), 0);
        x.fault(0, 0);
        x.fault(0, 3);
        x.pass(10);
        Check.due("two open for ten", x.count(7), 20);
        x.step(2, 0);
        Check.due("one is reset", x.count(7), 20);
        x.pass(1);
        Check.due("one is open for one more", x.count(7), 21);
        x.step(3, 0);
        x.pass(1000);
        Check.due("none is open", x.count(7), 21);
    }

    private static void countPlantedOnes() {
        Check.about("Promise 22: 8 planted ones to come");
        RobotFaults x = Check.robots(1);
        x.plant(0, 3, 1);
        x.plant(0, 3, 2);
        x.plant(0, 2, 3);
        for (int left = 3; left >= 0; left--) {
            Check.due("to come", x.count(8), left);
            x.pass(1);
        }
        Check.due("faults", x.count(2), 1);
    }
}
