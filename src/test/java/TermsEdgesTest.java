/** The edges that the document's terms name, in their order; each method tests the sentence that it quotes. */
public final class TermsEdgesTest {
    public static void main(String[] args) {
        timeIsZeroToHundredThousand();
        lastSecondIsASecondLikeOthers();
        linkedTwoByTwo();
        anyNumberOnOnePiece();
        kindOneAndTwoAlone();
        firstRuleOfEachKind();
        fortyFaultsEver();
        differentPersons();
        personsWhenTheFaultCame();
        oneOpenFaultOfAKind();
        aFaultStopsOneThatIsGoing();
        kindOneMakesItLostWhateverItWas();
        stillStoppedTillItResumes();
        aLostOneHasToBeFound();
        aTestTillAGoodOne();
        aTestWhenTheFaultCame();
        begunTenSecondsDoNotCount();
        onNoOtherPieces();
        zoneOfARingAndOfLongTimes();
        sixtySecondsBefore();
        sixtySecondsBehindEachJoin();
        plantedFaultsJoinToo();
        theLatestAlarm();
        rankWhenItWasRaised();
        fortyAlarms();
        asItWasButNotAcknowledged();
        eachThirtiethSecond();
        upToThree();
        notAcknowledgedAndOpen();
        behindTheFaultThatCameLast();
        Check.end();
    }

    private static void timeIsZeroToHundredThousand() {
        Check.about("TIME is in seconds, 0 .. 100000, 0 at first; it goes on.");
        RobotFaults x = new RobotFaults();
        Check.due("time at first", x.count(6), 0);
        for (int i = 1; i <= 100; i++) {
            x.pass(1000);
            Check.due("time", x.count(6), i * 1000);
        }
        Check.refused("a second more", IllegalArgumentException.class, () -> x.pass(1));
        Check.due("time at last", x.count(6), 100000);
    }

    private static void lastSecondIsASecondLikeOthers() {
        Check.about("TIME is in seconds, 0 .. 100000, 0 at first; it goes on.");
        RobotFaults x = Check.row(2);
        x.robot(0);
        x.robot(0);
        Check.passAll(x, 99970);
        x.fault(0, 0);
        x.plant(0, 3, 30);
        x.pass(20);
        x.fault(1, 1);
        Check.due("the rise of second 100000", x.pass(10), 1);
        Check.known(x, 3, 0, 3, 100000, -1, 2, 0, 1, 0, -1);
        Check.zone(x, 1, 0, 1);
        Check.due("reset then", x.step(3, 0), 1);
        Check.due("its second", x.known(3, 3), 100000);
        Check.due("a fault then", x.fault(0, 3), 4);
        Check.due("open seconds", x.count(7), 30 + 10);
    }

    private static void linkedTwoByTwo() {
        Check.about("PIECES 0, 1, .. (at most 20) are LINKED two by two.");
        RobotFaults x = new RobotFaults();
        for (int i = 0; i < 20; i++) {
            x.piece();
        }
        x.robot(0);
        for (int i = 1; i < 20; i++) {
            int piece = i;
            Check.refused("not linked with " + i, IllegalStateException.class, () -> x.move(0, piece));
        }
        x.link(19, 0);
        for (int i = 1; i < 19; i++) {
            int piece = i;
            Check.refused("still not linked with " + i, IllegalStateException.class, () -> x.move(0, piece));
        }
        x.move(0, 19);
        Check.refused("not with itself", IllegalStateException.class, () -> x.move(0, 19));
        x.move(0, 0);
        Check.due("there and back", x.told(0, 1), 0);
    }

    private static void anyNumberOnOnePiece() {
        Check.about("ROBOTS 0, 1, .. (at most 8) are on a piece (any number of them may be on one)");
        RobotFaults x = Check.row(2);
        for (int i = 0; i < 8; i++) {
            x.robot(i % 2);
        }
        for (int i = 1; i < 8; i += 2) {
            x.move(i, 0);
        }
        for (int i = 0; i < 8; i++) {
            Check.told(x, i, 0, 0, -1, 0, 0);
        }
    }

    private static void kindOneAndTwoAlone() {
        Check.about("KINDS of faults are 0 .. 7; of these 1 is a LOST CONNECTION, 2 a LOST LOAD.");
        for (int kind = 0; kind < 8; kind++) {
            RobotFaults x = Check.robots(1);
            x.load(0, 5);
            Check.due("fault(0, " + kind + ")", x.fault(0, kind), 1);
            Check.told(x, 0, kind == 1 ? 2 : 1, 0, kind == 2 ? -1 : 5, 1 << kind, 0);
            Check.known(x, 1, 0, kind, 0, -1, 0, 0, 0, 0, kind == 2 ? 5 : -1);
        }
    }

    private static void firstRuleOfEachKind() {
        Check.about("Each kind has a RULE: .. (1, no test, 3 at first).");
        RobotFaults x = Check.robots(1);
        x.load(0, 0);
        for (int kind = 0; kind < 8; kind++) {
            x.fault(0, kind);
            Check.due("rank of kind " + kind, x.alarm(kind, 2), 3);
            Check.due("persons of kind " + kind, x.step(kind + 1, 7), 1);
        }
        Check.due("no test", x.told(0, 4), 0);
    }

    private static void fortyFaultsEver() {
        Check.about("FAULTS 1, 2, .. (at most 40 ever)");
        RobotFaults x = Check.robots(1);
        for (int i = 1; i <= 40; i++) {
            Check.due("fault " + i, x.fault(0, 0), i);
            Check.due("reset of fault " + i, x.step(i, 0), 1);
        }
        Check.due("all are reset", x.count(3), 0);
        Check.refused("one more", UnsupportedOperationException.class, () -> x.fault(0, 0));
        x.pass(1000);
        Check.refused("one more, later", UnsupportedOperationException.class, () -> x.fault(0, 0));
        Check.due("faults ever", x.count(2), 40);
    }

    private static void differentPersons() {
        Check.about("RESET: as soon as so many different persons as its kind's rule asks .. have made a reset step.");
        RobotFaults x = Check.robots(1);
        x.rule(0, 2, false, 3);
        x.fault(0, 0);
        Check.due("the first person", x.step(1, 7), 0);
        for (int i = 0; i < 3; i++) {
            Check.due("the same person", x.step(1, 7), 2);
            Check.known(x, 1, 0, 0, 0, -1, 0, 128);
        }
        Check.due("a different one", x.step(1, 0), 1);
        Check.known(x, 1, 0, 0, 0, 0, 0, 129);
    }

    private static void personsWhenTheFaultCame() {
        Check.about("so many different persons as its kind's rule asks (when the fault came)");
        RobotFaults x = Check.robots(2);
        x.rule(0, 2, false, 3);
        x.fault(0, 0);
        x.step(1, 3);
        x.rule(0, 1, false, 3);
        x.fault(1, 0);
        Check.due("two then: not reset by the new rule", x.known(1, 3), -1);
        Check.due("two then: the same person", x.step(1, 3), 2);
        x.rule(0, 2, false, 3);
        Check.due("one then", x.step(2, 3), 1);
        Check.due("two then: another", x.step(1, 4), 1);
    }

    private static void oneOpenFaultOfAKind() {
        Check.about("A robot has one open fault of a kind at most.");
        RobotFaults x = Check.robots(2);
        x.fault(0, 4);
        x.plant(0, 4, 1);
        x.pass(1);
        x.fault(0, 4);
        Check.due("faults", x.count(2), 1);
        Check.due("another kind", x.fault(0, 5), 2);
        Check.due("another robot", x.fault(1, 4), 3);
        x.step(1, 0);
        Check.due("the first is reset", x.fault(0, 4), 4);
        Check.due("open ones", x.count(3), 3);
    }

    private static void aFaultStopsOneThatIsGoing() {
        Check.about("A FAULT stops a robot that is GOING");
        int[] then = {1, 1, 2, 3};
        for (int state = 0; state < 4; state++) {
            for (int kind = 2; kind < 8; kind++) {
                RobotFaults x = Check.robotThatIs(state == 2 ? 0 : state);
                x.load(0, 1);
                if (state == 2) {
                    x.fault(0, 1);
                }
                x.fault(0, kind);
                Check.due("kind " + kind + ", it was " + state, x.told(0, 0), then[state]);
                Check.due("its piece", x.told(0, 1), 1);
            }
        }
    }

    private static void kindOneMakesItLostWhateverItWas() {
        Check.about("one of kind 1 makes it LOST, whatever it was (its LAST PIECE is that on which it is)");
        for (int state = 0; state < 4; state++) {
            RobotFaults x = Check.robotThatIs(state);
            x.pass(100);
            x.fault(0, 1);
            Check.due("it was " + state, x.told(0, 0), 2);
            Check.due("its last piece", x.told(0, 1), 1);
            Check.zone(x, 0, 1);
            x.pass(10);
            Check.zone(x, 0, 0, 1, 2);
        }
    }

    private static void stillStoppedTillItResumes() {
        Check.about("A robot whose open faults are all reset is still STOPPED (or TOWED) till it resumes");
        int[] states = {1, 3};
        for (int state : states) {
            RobotFaults x = Check.robotThatIs(state);
            Check.due("open ones", x.count(3), 0);
            x.pass(1000);
            Check.due("it was " + state, x.told(0, 0), state);
            Check.refused("a move before", IllegalStateException.class, () -> x.move(0, 0));
            Check.due("resume(0)", x.resume(0), 1);
            Check.due("then", x.told(0, 0), 0);
            x.move(0, 0);
        }
    }

    private static void aLostOneHasToBeFound() {
        Check.about("a LOST one first has to be found");
        RobotFaults x = Check.robotThatIs(2);
        Check.due("open ones", x.count(3), 0);
        Check.due("resume(0)", x.resume(0), -2);
        Check.due("still lost", x.told(0, 0), 2);
        x.found(0, 1);
        Check.due("found, but it has not resumed", x.told(0, 0), 1);
        Check.due("resume(0) then", x.resume(0), 1);
    }

    private static void aTestTillAGoodOne() {
        Check.about("It WANTS A TEST from the time a fault whose kind's rule .. asks for one comes till a good test.");
        RobotFaults x = Check.robots(1);
        x.rule(5, 1, true, 3);
        x.plant(0, 5, 10);
        x.pass(9);
        Check.due("the second before", x.told(0, 4), 0);
        x.pass(1);
        Check.due("its second", x.told(0, 4), 1);
        x.step(1, 0);
        x.tow(0, 0);
        x.test(0, false);
        Check.due("after a reset, a tow and a bad test", x.told(0, 4), 1);
        x.test(0, true);
        Check.due("after a good test", x.told(0, 4), 0);
        x.resume(0);
        Check.due("while it goes", x.told(0, 4), 0);
    }

    private static void aTestWhenTheFaultCame() {
        Check.about("a fault whose kind's rule (when it came) asks for one");
        RobotFaults x = Check.robots(2);
        x.fault(0, 0);
        x.rule(0, 1, true, 3);
        Check.due("asked for none then", x.told(0, 4), 0);
        x.fault(1, 0);
        x.rule(0, 1, false, 3);
        Check.due("asked for one then", x.told(1, 4), 1);
        x.step(1, 0);
        x.step(2, 0);
        Check.due("resume(0)", x.resume(0), 1);
        Check.due("resume(1)", x.resume(1), -3);
    }

    private static void begunTenSecondsDoNotCount() {
        Check.about("over no more links than ten seconds went by for .. (begun ones do not count)");
        RobotFaults x = Check.row(4);
        x.robot(0);
        x.pass(5);
        x.fault(0, 1);
        for (int second = 0; second <= 40; second++) {
            int reached = Math.min(second / 10, 3);
            Check.due("the last piece after " + second, x.zone(0, reached), reached);
            Check.due("none more after " + second, x.zone(0, reached + 1), -1);
            x.pass(1);
        }
    }

    private static void onNoOtherPieces() {
        Check.about("A LOST robot MAY BE on each piece that can be reached ..; and on no others.");
        RobotFaults x = Check.row(3);
        x.piece();
        x.piece();
        x.link(3, 4);
        x.robot(1);
        x.robot(4);
        x.fault(0, 1);
        x.fault(1, 1);
        x.pass(1000);
        Check.zone(x, 0, 0, 1, 2);
        Check.zone(x, 1, 3, 4);
        for (int piece = 3; piece < 5; piece++) {
            int other = piece;
            Check.refused("found(0, " + piece + ")", IllegalStateException.class, () -> x.found(0, other));
        }
    }

    private static void zoneOfARingAndOfLongTimes() {
        Check.about("A LOST robot MAY BE on each piece that can be reached");
        RobotFaults x = Check.row(20);
        x.link(19, 0);
        x.robot(19);
        x.fault(0, 1);
        x.pass(20);
        Check.zone(x, 0, 0, 1, 17, 18, 19);
        x.pass(79);
        Check.due("19 pieces are not yet reached", x.zone(0, 19), -1);
        x.pass(1);
        Check.due("the far side of the ring", x.zone(0, 19), 19);
        Check.passAll(x, 99900);
        Check.due("at the end of time", x.zone(0, 19), 19);
        Check.due("no more than there are", x.zone(0, 20), -1);
        Check.due("the fewest links", x.found(0, 9), 10);
    }

    private static void sixtySecondsBefore() {
        Check.about("the latest alarm of its robot and kind, if that was RAISED .. no more than 60 seconds before");
        for (int seconds = 59; seconds <= 61; seconds++) {
            RobotFaults x = Check.robots(1);
            Check.faultsAndResets(x, 0, 0, 1);
            x.pass(seconds);
            x.fault(0, 0);
            Check.due("alarm, " + seconds + " seconds before", x.known(2, 4), seconds <= 60 ? 0 : 1);
            Check.due("alarms", x.count(4), seconds <= 60 ? 1 : 2);
        }
    }

    private static void sixtySecondsBehindEachJoin() {
        Check.about("if that was RAISED (or joined) no more than 60 seconds before, else a new one");
        RobotFaults x = Check.robots(1);
        Check.faultsAndResets(x, 0, 0, 1);
        x.pass(60);
        Check.faultsAndResets(x, 0, 0, 1);
        x.pass(60);
        Check.faultsAndResets(x, 0, 0, 1);
        Check.alarm(x, 0, 0, 0, 3, 0, 3, -1, 120);
        x.pass(61);
        Check.faultsAndResets(x, 0, 0, 1);
        Check.alarm(x, 0, 0, 0, 3, 0, 3, -1, 120);
        Check.alarm(x, 1, 0, 0, 3, 0, 1, -1, 181);
    }

    private static void plantedFaultsJoinToo() {
        Check.about("each fault has one: the latest alarm of its robot and kind, if that was RAISED (or joined) ..");
        for (int seconds = 60; seconds <= 61; seconds++) {
            RobotFaults x = Check.robots(1);
            Check.faultsAndResets(x, 0, 0, 1);
            x.acknowledge(0, 1);
            x.plant(0, 0, seconds);
            x.pass(1000);
            Check.due("alarm of the planted one", x.known(2, 4), seconds - 60);
            Check.due("the person of alarm 0", x.alarm(0, 5), seconds == 60 ? -1 : 1);
        }
    }

    private static void theLatestAlarm() {
        Check.about("the latest alarm of its robot and kind");
        RobotFaults x = Check.robots(2);
        Check.faultsAndResets(x, 0, 0, 1);
        x.pass(61);
        Check.faultsAndResets(x, 0, 0, 1);
        Check.faultsAndResets(x, 1, 0, 1);
        Check.faultsAndResets(x, 0, 3, 1);
        x.fault(0, 0);
        Check.due("the later of two", x.known(5, 4), 1);
        x.fault(1, 0);
        Check.due("its robot's", x.known(6, 4), 2);
        x.fault(0, 3);
        Check.due("its kind's", x.known(7, 4), 3);
    }

    private static void rankWhenItWasRaised() {
        Check.about("An alarm has a rank (of its kind's rule, when it was raised)");
        RobotFaults x = Check.robots(1);
        x.rule(0, 1, false, 5);
        Check.faultsAndResets(x, 0, 0, 1);
        x.rule(0, 1, false, 1);
        Check.due("the rule has changed", x.alarm(0, 2), 5);
        Check.faultsAndResets(x, 0, 0, 1);
        Check.due("and a fault joined", x.alarm(0, 2), 5);
        x.pass(61);
        x.fault(0, 0);
        Check.due("a new one", x.alarm(1, 2), 1);
    }

    private static void fortyAlarms() {
        Check.about("ALARMS 0, 1, .. (at most 40): each fault has one");
        RobotFaults x = Check.robots(1);
        for (int i = 0; i < 40; i++) {
            x.fault(0, 0);
            x.step(i + 1, 0);
            Check.due("alarm of fault " + (i + 1), x.known(i + 1, 4), i);
            x.pass(61);
        }
        Check.due("alarms", x.count(4), 40);
        Check.alarm(x, 39, 0, 0, 3, 0, 1, -1, 39 * 61);
        Check.refused("a fault more", UnsupportedOperationException.class, () -> x.fault(0, 0));
        Check.due("alarms then", x.count(4), 40);
    }

    private static void asItWasButNotAcknowledged() {
        Check.about("With each fault that joins it is as it was, but not acknowledged any more.");
        RobotFaults x = Check.robots(1);
        x.rule(0, 1, false, 2);
        x.fault(0, 0);
        x.pass(60);
        x.acknowledge(0, 0);
        Check.alarm(x, 0, 0, 0, 2, 2, 1, 0, 0);
        x.step(1, 0);
        Check.due("a reset leaves the person", x.alarm(0, 5), 0);
        x.fault(0, 0);
        Check.alarm(x, 0, 0, 0, 2, 2, 2, -1, 60);
        Check.due("those not acknowledged", x.count(5), 1);
    }

    private static void eachThirtiethSecond() {
        Check.about("rises by one level .. at each 30th second behind that at which that fault came");
        RobotFaults x = Check.robots(1);
        x.pass(13);
        x.fault(0, 0);
        for (int second = 1; second <= 95; second++) {
            Check.due("levels in second " + second, x.pass(1), second % 30 == 0 ? 1 : 0);
            Check.due("level after second " + second, x.alarm(0, 3), second / 30);
        }
    }

    private static void upToThree() {
        Check.about("a LEVEL 0 .. 3 (0 at first); rises by one level (up to 3)");
        RobotFaults x = Check.robots(1);
        x.fault(0, 0);
        Check.due("at first", x.alarm(0, 3), 0);
        Check.due("60 seconds", x.pass(60), 2);
        x.step(1, 0);
        x.fault(0, 0);
        Check.due("joined at level 2: one level is left", x.pass(60), 1);
        x.step(2, 0);
        x.fault(0, 0);
        Check.due("joined at level 3: none is left", x.pass(1000), 0);
        Check.alarm(x, 0, 0, 0, 3, 3, 3, -1, 120);
    }

    private static void notAcknowledgedAndOpen() {
        Check.about("RISING: an alarm that is not acknowledged and whose fault that came last is open");
        RobotFaults x = Check.robots(4);
        x.rule(0, 2, false, 3);
        for (int robot = 0; robot < 4; robot++) {
            x.fault(robot, 0);
        }
        x.pass(29);
        x.acknowledge(1, 0);
        x.step(3, 0);
        x.step(3, 1);
        x.step(4, 0);
        Check.due("two of four rise", x.pass(1), 2);
        Check.due("open", x.alarm(0, 3), 1);
        Check.due("open, but acknowledged", x.alarm(1, 3), 0);
        Check.due("not acknowledged, but reset", x.alarm(2, 3), 0);
        Check.due("open, for one of two made a step", x.alarm(3, 3), 1);
    }

    private static void behindTheFaultThatCameLast() {
        Check.about("at each 30th second behind that at which that fault came");
        RobotFaults x = Check.robots(1);
        x.fault(0, 0);
        x.pass(25);
        x.step(1, 0);
        x.fault(0, 0);
        Check.due("the first one's 30th", x.pass(29), 0);
        Check.due("the last one's 30th", x.pass(1), 1);
        x.fault(0, 0);
        Check.due("its 60th, for the open one changed nothing", x.pass(30), 1);
    }
}
