/** Promises 15 (plant), 16 (pass). */
public final class PlantTest {
    public static void main(String[] args) {
        aPlantedFaultComes();
        theyComeInTheirOrder();
        theyComeAtTheirSeconds();
        someDoNotCome();
        noneComesWithoutRoom();
        theRuleIsThatOfTheSecond();
        timeEnds();
        alarmsRise();
        alarmsRiseBehindTheLastFault();
        plantedFaultsComeBeforeAlarmsRise();
        manySecondsAreAsMany();
        Check.end();
    }

    private static void aPlantedFaultComes() {
        RobotFaults x = Check.row(2);
        x.robot(0);
        x.load(0, 8);
        x.plant(0, 2, 1);
        x.plant(0, 1, 1000);
        Check.due("nothing yet", x.count(2), 0);
        Check.due("pass(1)", x.pass(1), 0);
        Check.known(x, 1, 0, 2, 1, -1, 0, 0, 1, 0, 8);
        Check.due("stopped", x.told(0, 0), 1);
        x.tow(0, 1);
        x.pass(998);
        Check.due("not yet", x.told(0, 0), 3);
        x.pass(1);
        Check.due("lost", x.told(0, 0), 2);
        Check.due("second", x.known(2, 2), 1000);
        Check.due("where it was then", x.known(2, 7), 1);
        x.fault(0, 0);
        Check.due("one that is not planted", x.known(3, 6), 0);
    }

    private static void theyComeInTheirOrder() {
        RobotFaults x = Check.robots(2);
        x.plant(0, 4, 3);
        x.pass(1);
        x.plant(1, 5, 2);
        x.plant(0, 6, 1);
        x.plant(1, 3, 2);
        x.pass(2);
        Check.due("the soonest", x.known(1, 1), 6);
        Check.due("then, planted first", x.known(2, 1), 4);
        Check.due("then, planted second", x.known(3, 1), 5);
        Check.due("then, planted last", x.known(4, 1), 3);
    }

    private static void theyComeAtTheirSeconds() {
        RobotFaults x = Check.robots(1);
        x.plant(0, 4, 10);
        x.plant(0, 5, 20);
        x.pass(1000);
        Check.due("second of the first", x.known(1, 2), 10);
        Check.due("second of the other", x.known(2, 2), 20);
        Check.due("time", x.count(6), 1000);
        Check.due("open seconds", x.count(7), 990 + 980);
    }

    private static void someDoNotCome() {
        RobotFaults x = Check.robots(1);
        x.fault(0, 0);
        x.plant(0, 2, 5);
        x.plant(0, 0, 5);
        x.plant(0, 3, 5);
        x.plant(0, 3, 5);
        x.pass(5);
        Check.due("planted to come", x.count(8), 0);
        Check.due("faults", x.count(2), 2);
        Check.due("faults of the joined alarm", x.alarm(0, 4), 1);
        x.load(0, 1);
        x.step(1, 0);
        x.pass(100);
        Check.due("those that are gone stay away", x.count(2), 2);
    }

    private static void noneComesWithoutRoom() {
        RobotFaults x = Check.robots(2);
        Check.faultsAndResets(x, 0, 0, 39);
        x.plant(1, 4, 1);
        x.plant(1, 5, 1);
        Check.due("pass(1)", x.pass(1), 0);
        Check.due("faults", x.count(2), 40);
        Check.due("kinds", x.told(1, 3), 16);
        Check.due("planted to come", x.count(8), 0);
        x.plant(0, 0, 1);
        x.pass(1);
        Check.due("planted are gone", x.count(8), 0);
    }

    private static void theRuleIsThatOfTheSecond() {
        RobotFaults x = Check.robots(1);
        x.plant(0, 4, 10);
        x.rule(4, 2, true, 1);
        x.pass(10);
        Check.due("rank", x.alarm(0, 2), 1);
        Check.due("test", x.told(0, 4), 1);
        Check.due("persons", x.step(1, 0), 0);
    }

    private static void timeEnds() {
        RobotFaults x = Check.robots(1);
        Check.passAll(x, 99500);
        x.fault(0, 0);
        x.plant(0, 1, 500);
        x.plant(0, 3, 501);
        Check.refused("pass(501)", IllegalArgumentException.class, () -> x.pass(501));
        Check.due("nothing passed", x.count(6), 99500);
        Check.due("pass(500)", x.pass(500), 3);
        Check.due("time", x.count(6), 100000);
        Check.due("planted for the end", x.told(0, 0), 2);
        Check.due("planted behind the end", x.count(8), 1);
        Check.refused("pass(1)", IllegalArgumentException.class, () -> x.pass(1));
        Check.due("pass(0)", x.pass(0), 0);
    }

    private static void alarmsRise() {
        RobotFaults x = Check.robots(2);
        x.pass(7);
        x.fault(0, 0);
        Check.due("pass(29)", x.pass(29), 0);
        x.fault(1, 0);
        Check.due("the 30th second", x.pass(1), 1);
        Check.due("level 1", x.alarm(0, 3), 1);
        Check.due("up to the other's 30th", x.pass(29), 1);
        Check.due("the other's level", x.alarm(1, 3), 1);
        Check.due("the 60th and the 90th of both", x.pass(60), 4);
        Check.due("level 3", x.alarm(0, 3), 3);
        Check.due("the other's level then", x.alarm(1, 3), 3);
        Check.due("up to 3", x.pass(1000), 0);
        Check.due("level stays", x.alarm(0, 3), 3);
    }

    private static void alarmsRiseBehindTheLastFault() {
        RobotFaults x = Check.robots(1);
        x.fault(0, 0);
        x.pass(20);
        x.step(1, 0);
        Check.due("reset ones do not rise", x.pass(15), 0);
        x.fault(0, 0);
        Check.due("a new 30", x.pass(29), 0);
        Check.due("at its end", x.pass(1), 1);
        x.acknowledge(0, 0);
        Check.due("acknowledged ones do not rise", x.pass(60), 0);
        x.step(2, 0);
        x.pass(1);
        Check.due("61 seconds before: a new one", x.known(x.fault(0, 0), 4), 1);
    }

    private static void plantedFaultsComeBeforeAlarmsRise() {
        RobotFaults x = Check.robots(1);
        x.fault(0, 0);
        x.plant(0, 0, 30);
        x.plant(0, 4, 30);
        Check.due("the open one rises, the new one does not", x.pass(30), 1);
        x.step(1, 0);
        x.plant(0, 0, 30);
        Check.due("only the other rises", x.pass(30), 1);
        Check.due("it joined", x.alarm(0, 4), 2);
        Check.due("both rise", x.pass(30), 2);
    }

    /** The same seconds in one call and in many. */
    private static void manySecondsAreAsMany() {
        RobotFaults x = Check.robots(2);
        RobotFaults y = Check.robots(2);
        for (int i = 0; i < 8; i++) {
            x.plant(i % 2, i, 7 * i + 1);
            y.plant(i % 2, i, 7 * i + 1);
        }
        int rose = 0;
        for (int i = 0; i < 200; i++) {
            rose += y.pass(1);
        }
        Check.due("levels", x.pass(200), rose);
        for (int what = 0; what <= 8; what++) {
            Check.due("count(" + what + ")", x.count(what), y.count(what));
        }
    }
}
