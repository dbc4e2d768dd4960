import java.util.Random;

/** Random runs of 512 calls on the class and on PlainModel: the same answers, or the same exceptions. */
public final class RandomRunsTest {
    private static final int RUNS = 1500;
    private static final int CALLS = 512;
    private static final int WORST_SHOWN = 10;
    private static final String[] NAMES = {"piece", "link", "robot", "rule", "move", "load", "fault", "step", "test",
        "resume", "zone", "found", "tow", "plant", "pass", "acknowledge", "alarm", "known", "told", "first", "count"};
    /** How often each is called beside the others, in the order of the names. */
    private static final int[] WEIGHTS = {4, 6, 2, 3, 8, 8, 10, 12, 8, 10, 12, 8, 5, 5, 12, 6, 12, 12, 14, 4, 10};
    private static final int[] ODD = {-1, -2, 8, 9, 10, 20, 40, 41, 100, 1001, Integer.MIN_VALUE, Integer.MAX_VALUE};

    private final Random random;
    private final RobotFaults made = new RobotFaults();
    private final PlainModel model = new PlainModel();
    private final int[] arguments = new int[4];
    private final int hurry;

    private RandomRunsTest(long seed) {
        random = new Random(seed);
        hurry = random.nextInt(4);
    }

    public static void main(String[] args) {
        int wrong = 0;
        for (int run = 0; run < RUNS && wrong < WORST_SHOWN; run++) {
            if (!new RandomRunsTest(run).isAsDue(run)) {
                wrong++;
            }
        }
        Check.end();
    }

    private boolean isAsDue(int run) {
        for (int i = 0; i < CALLS; i++) {
            int call = i < 12 ? i % 3 : pick();
            chooseArguments(call);
            String got = answer(call, true);
            String want = answer(call, false);
            if (!got.equals(want)) {
                Check.report("run " + run + ", call " + i + ": " + NAMES[call] + java.util.Arrays.toString(arguments)
                        + " answered " + got + ", due is " + want);
                return false;
            }
        }
        return true;
    }

    private int pick() {
        int sum = 0;
        for (int weight : WEIGHTS) {
            sum += weight;
        }
        int left = random.nextInt(sum);
        int call = 0;
        while (left >= WEIGHTS[call]) {
            left -= WEIGHTS[call];
            call++;
        }
        return call;
    }

    private int below(int bound) {
        if (random.nextInt(40) == 0) {
            return ODD[random.nextInt(ODD.length)];
        }
        return random.nextInt(Math.max(1, bound));
    }

    private void chooseArguments(int call) {
        int piece = below(model.count(0));
        int robot = below(model.count(1));
        int kind = below(random.nextBoolean() ? 3 : 8);
        int fault = random.nextInt(3) > 0 ? model.count(2) - below(4) : below(model.count(2)) + 1;
        int alarm = below(model.count(4));
        int person = below(8);
        switch (NAMES[call]) {
            case "link" -> put(piece, below(model.count(0)), 0, 0);
            case "robot" -> put(piece, 0, 0, 0);
            case "rule" -> put(kind, below(2) + 1, random.nextInt(2), below(5) + 1);
            case "move", "found", "tow" -> put(robot, piece, 0, 0);
            case "load" -> put(robot, below(101) - 1, 0, 0);
            case "fault" -> put(robot, kind, 0, 0);
            case "step" -> put(fault, person, 0, 0);
            case "test" -> put(robot, random.nextInt(2), 0, 0);
            case "zone" -> put(robot, below(8), 0, 0);
            case "plant" -> put(robot, kind, random.nextBoolean() ? below(40) : below(1001), 0);
            case "pass" -> put(seconds(), 0, 0, 0);
            case "acknowledge" -> put(alarm, person, 0, 0);
            case "alarm" -> put(alarm, below(7), 0, 0);
            case "known" -> put(fault, below(9), 0, 0);
            case "told" -> put(robot, below(5), 0, 0);
            case "count" -> put(below(9), 0, 0, 0);
            default -> put(robot, 0, 0, 0);
        }
    }

    /** Some runs hurry on, some to the end of time, others dwell; the edges of 10, 30 and 60 come often. */
    private int seconds() {
        int[] edges = {1, 9, 10, 29, 30, 31, 59, 60, 61, 1000};
        if (hurry == 0 || random.nextInt(8) == 0) {
            return below(1001);
        }
        return hurry == 3 ? 1000 - below(10) : random.nextBoolean() ? edges[random.nextInt(9)] : below(40);
    }

    private void put(int a, int b, int c, int d) {
        arguments[0] = a;
        arguments[1] = b;
        arguments[2] = c;
        arguments[3] = d;
    }

    private String answer(int call, boolean ofMade) {
        try {
            return Integer.toString(ofMade ? callMade(NAMES[call]) : callModel(NAMES[call]));
        } catch (RuntimeException e) {
            return e.getClass().getName();
        }
    }

    private int callMade(String name) {
        int a = arguments[0];
        int b = arguments[1];
        switch (name) {
            case "link" -> made.link(a, b);
            case "rule" -> made.rule(a, b, arguments[2] == 1, arguments[3]);
            case "move" -> made.move(a, b);
            case "load" -> made.load(a, b);
            case "tow" -> made.tow(a, b);
            case "plant" -> made.plant(a, b, arguments[2]);
            default -> {
                return askMade(name, a, b);
            }
        }
        return 0;
    }

    private int askMade(String name, int a, int b) {
        return switch (name) {
            case "piece" -> made.piece();
            case "robot" -> made.robot(a);
            case "fault" -> made.fault(a, b);
            case "step" -> made.step(a, b);
            case "test" -> made.test(a, b == 1) ? 1 : 0;
            case "resume" -> made.resume(a);
            case "zone" -> made.zone(a, b);
            case "found" -> made.found(a, b);
            case "pass" -> made.pass(a);
            case "acknowledge" -> made.acknowledge(a, b);
            case "alarm" -> made.alarm(a, b);
            case "known" -> made.known(a, b);
            case "told" -> made.told(a, b);
            case "first" -> made.first();
            default -> made.count(a);
        };
    }

    private int callModel(String name) {
        int a = arguments[0];
        int b = arguments[1];
        return switch (name) {
            case "piece" -> model.piece();
            case "link" -> model.link(a, b);
            case "robot" -> model.robot(a);
            case "rule" -> model.rule(a, b, arguments[2] == 1, arguments[3]);
            case "move" -> model.move(a, b);
            case "load" -> model.load(a, b);
            case "fault" -> model.fault(a, b);
            case "step" -> model.step(a, b);
            case "test" -> model.test(a, b == 1);
            case "resume" -> model.resume(a);
            case "zone" -> model.zone(a, b);
            case "found" -> model.found(a, b);
            case "tow" -> model.tow(a, b);
            case "plant" -> model.plant(a, b, arguments[2]);
            case "pass" -> model.pass(a);
            case "acknowledge" -> model.acknowledge(a, b);
            case "alarm" -> model.alarm(a, b);
            case "known" -> model.known(a, b);
            case "told" -> model.told(a, b);
            case "first" -> model.first();
            default -> model.count(a);
        };
    }
}
