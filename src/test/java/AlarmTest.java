/** Promises 17 (acknowledge), 18 (alarm), 21 (first), 22 (count). */
public final class AlarmTest {
    public static void main(String[] args) {
        anAlarmIsTold();
        faultsJoinForSixtySeconds();
        sixtySecondsBehindTheOneThatJoinedLast();
        robotsAndKindsAreApart();
        aJoinedAlarmIsAsItWas();
        acknowledging();
        fortyAlarms();
        theFirstByLevel();
        theFirstByRankThenNumber();
        counting();
        Check.end();
    }

    private static void anAlarmIsTold() {
        RobotFaults x = Check.robots(3);
        x.rule(6, 1, false, 5);
        x.pass(11);
        x.fault(2, 6);
        Check.alarm(x, 0, 2, 6, 5, 0, 1, -1, 11);
        x.pass(35);
        x.acknowledge(0, 4);
        Check.alarm(x, 0, 2, 6, 5, 1, 1, 4, 11);
    }

    private static void faultsJoinForSixtySeconds() {
        RobotFaults x = Check.robots(1);
        Check.faultsAndResets(x, 0, 0, 1);
        x.pass(60);
        Check.faultsAndResets(x, 0, 0, 1);
        Check.alarm(x, 0, 0, 0, 3, 0, 2, -1, 60);
        Check.due("alarm of the second fault", x.known(2, 4), 0);
        RobotFaults y = Check.robots(1);
        Check.faultsAndResets(y, 0, 0, 1);
        y.pass(61);
        Check.faultsAndResets(y, 0, 0, 1);
        Check.due("alarm of a later one", y.known(2, 4), 1);
        Check.alarm(y, 0, 0, 0, 3, 0, 1, -1, 0);
        Check.alarm(y, 1, 0, 0, 3, 0, 1, -1, 61);
        Check.faultsAndResets(y, 0, 0, 1);
        Check.due("the latest is joined", y.known(3, 4), 1);
    }

    private static void sixtySecondsBehindTheOneThatJoinedLast() {
        RobotFaults x = Check.robots(1);
        for (int i = 0; i < 5; i++) {
            Check.faultsAndResets(x, 0, 0, 1);
            x.pass(60);
        }
        Check.alarm(x, 0, 0, 0, 3, 0, 5, -1, 240);
        x.fault(0, 0);
        x.pass(300);
        x.step(6, 0);
        x.fault(0, 0);
        Check.due("open till now, but it came long before", x.known(7, 4), 1);
    }

    private static void robotsAndKindsAreApart() {
        RobotFaults x = Check.robots(2);
        x.fault(0, 0);
        x.fault(1, 0);
        x.fault(0, 3);
        Check.due("another robot's", x.known(2, 4), 1);
        Check.due("another kind's", x.known(3, 4), 2);
        x.step(1, 0);
        x.fault(0, 0);
        Check.due("its own", x.known(4, 4), 0);
    }

    private static void aJoinedAlarmIsAsItWas() {
        RobotFaults x = Check.robots(1);
        x.rule(0, 1, false, 4);
        x.fault(0, 0);
        x.pass(45);
        x.acknowledge(0, 6);
        x.step(1, 0);
        x.rule(0, 1, false, 1);
        x.fault(0, 0);
        Check.alarm(x, 0, 0, 0, 4, 1, 2, -1, 45);
        Check.due("and can be acknowledged again", x.acknowledge(0, 1), 1);
    }

    private static void acknowledging() {
        RobotFaults x = Check.robots(1);
        x.fault(0, 0);
        Check.due("level 0", x.acknowledge(0, 0), 0);
        Check.due("person 0", x.alarm(0, 5), 0);
        x.fault(0, 3);
        x.pass(90);
        x.step(2, 0);
        Check.due("level 3, though reset", x.acknowledge(1, 7), 3);
        Check.due("person 7", x.alarm(1, 5), 7);
    }

    private static void fortyAlarms() {
        RobotFaults x = Check.robots(8);
        for (int i = 0; i < 40; i++) {
            if (i % 5 == 0) {
                x.load(i / 5, 1);
            }
            x.fault(i / 5, i % 5);
        }
        Check.due("alarms", x.count(4), 40);
        Check.due("robot of the last", x.alarm(39, 0), 7);
        Check.due("levels that rise", x.pass(90), 120);
        Check.due("first()", x.first(), 0);
    }

    private static void theFirstByLevel() {
        RobotFaults x = Check.robots(1);
        x.rule(0, 1, false, 5);
        x.rule(3, 1, false, 1);
        x.fault(0, 0);
        x.pass(30);
        x.fault(0, 3);
        Check.due("the level before the rank", x.first(), 0);
        x.step(1, 0);
        Check.due("though it is reset", x.first(), 0);
        x.acknowledge(0, 0);
        Check.due("the next", x.first(), 1);
        x.acknowledge(1, 0);
        Check.due("all are acknowledged", x.first(), -1);
        x.fault(0, 0);
        Check.due("not any more", x.first(), 0);
    }

    private static void theFirstByRankThenNumber() {
        RobotFaults x = Check.robots(1);
        x.rule(4, 1, false, 2);
        x.rule(5, 1, false, 2);
        x.rule(6, 1, false, 4);
        x.fault(0, 3);
        Check.due("the only one", x.first(), 0);
        x.fault(0, 4);
        Check.due("a lesser rank number", x.first(), 1);
        x.fault(0, 5);
        Check.due("the same rank", x.first(), 1);
        x.fault(0, 6);
        Check.due("a greater rank number", x.first(), 1);
        x.acknowledge(1, 0);
        Check.due("then", x.first(), 2);
        x.acknowledge(2, 0);
        Check.due("then rank 3", x.first(), 0);
        x.acknowledge(0, 0);
        Check.due("then rank 4", x.first(), 3);
    }

    private static void counting() {
        RobotFaults x = Check.row(3);
        x.robot(0);
        x.robot(1);
        x.rule(0, 2, false, 3);
        x.fault(0, 0);
        x.pass(10);
        x.fault(0, 3);
        x.fault(1, 3);
        x.pass(5);
        x.step(2, 0);
        x.step(1, 0);
        x.acknowledge(2, 0);
        x.fault(0, 3);
        x.plant(0, 5, 100);
        x.plant(0, 6, 2);
        x.pass(3);
        Check.counts(x, 3, 2, 5, 4, 4, 3, 18, 18 + 5 + 8 + 3 + 1, 1);
        x.step(1, 1);
        x.pass(10);
        Check.due("count(7) without the reset one", x.count(7), 18 + 5 + 18 + 13 + 11);
    }
}
