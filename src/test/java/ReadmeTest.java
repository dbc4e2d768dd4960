import java.nio.file.Files;
import java.nio.file.Path;
import java.util.List;

/** The calls of README.md, with the answers that it tells; and that none of its calls is missing here. */
public final class ReadmeTest {
    public static void main(String[] args) throws Exception {
        use();
        allOfItsCallsAreHere();
        Check.end();
    }

    private static void use() {
        RobotFaults faults = new RobotFaults();
        int dock = faults.piece();
        int aisle = faults.piece();
        faults.link(dock, aisle);
        int robot = faults.robot(dock);
        lostAndFound(faults, robot, aisle);
        lostLoad(faults, robot, dock);
    }

    private static void lostAndFound(RobotFaults faults, int robot, int aisle) {
        faults.rule(1, 2, true, 1);
        int lost = faults.fault(robot, 1);
        Check.due("the robot is LOST", faults.told(robot, 0), 2);
        due("0", faults.pass(10));
        due("1", faults.zone(robot, 1));
        Check.due("the aisle", aisle, 1);
        due("1", faults.found(robot, aisle));
        due("0", faults.step(lost, 4));
        due("1", faults.step(lost, 5));
        due("-3", faults.resume(robot));
        due("true", faults.test(robot, true));
        due("1", faults.resume(robot));
        Check.due("the robot is GOING", faults.told(robot, 0), 0);
    }

    private static void lostLoad(RobotFaults faults, int robot, int dock) {
        faults.load(robot, 42);
        faults.plant(robot, 2, 5);
        due("2", faults.pass(65));
        int alarm = faults.first();
        Check.due("first()", alarm, 1);
        due("2", faults.alarm(alarm, 3));
        due("2", faults.acknowledge(alarm, 6));
        Check.due("it rises no more", faults.pass(1000), 0);
        due("42", faults.known(2, 8));
        faults.tow(robot, dock);
        due("3", faults.told(robot, 0));
        due("1", faults.count(3));
    }

    private static void due(String want, Object got) {
        if (!want.equals(String.valueOf(got))) {
            Check.report("a call of README.md answered " + got + ", due is " + want);
        }
    }

    private static void allOfItsCallsAreHere() throws Exception {
        String here = Files.readString(Path.of("src/test/java/ReadmeTest.java"));
        List<String> lines = Files.readAllLines(Path.of("README.md"));
        boolean inBlock = false;
        int calls = 0;
        for (String line : lines) {
            if (line.startsWith("```")) {
                inBlock = line.equals("```java");
            } else if (inBlock && !line.isBlank()) {
                calls++;
                needHere(here, line);
            }
        }
        Check.due("README.md shows calls", calls > 0, true);
    }

    /** A statement stands here as it is there, or with the answer that the comment behind it begins with. */
    private static void needHere(String here, String line) {
        String[] parts = line.split("; *(// )?", 2);
        String answer = parts[1].split(":", 2)[0];
        boolean told = answer.matches("-?\\d+|true|false") && parts[0].startsWith("faults.");
        String wanted = told ? "due(\"" + answer + "\", " + parts[0] + ");" : parts[0] + ";";
        if (!here.contains(wanted)) {
            Check.report("README.md shows what is not tested: " + wanted);
        }
    }
}
