import java.util.ArrayList;
import java.util.HashMap;
import java.util.Iterator;
import java.util.List;
import java.util.Map;
import java.util.NoSuchElementException;
import java.util.TreeMap;
import java.util.TreeSet;

/**
 * The document once more, as plainly as the Java library lets it be said and with no thought of speed: each second is
 * gone through, each way is walked. RandomRunsTest compares the class with it.
 */
final class PlainModel {
    private enum State { GOING, STOPPED, LOST, TOWED }

    private static final class Robot {
        State state = State.GOING;
        int piece;
        int unit = -1;
        boolean wantsTest;
        int lostAt;
    }

    private static final class Fault {
        int robot;
        int kind;
        int second;
        int reset = -1;
        int alarm;
        int needed;
        boolean planted;
        int piece;
        int lost = -1;
        final TreeSet<Integer> persons = new TreeSet<>();
    }

    private static final class Alarm {
        int robot;
        int kind;
        int rank;
        int level;
        int person = -1;
        final List<Integer> faults = new ArrayList<>();
    }

    private int time;
    private final List<TreeSet<Integer>> links = new ArrayList<>();
    private final List<Robot> robots = new ArrayList<>();
    private final Map<Integer, int[]> rules = new HashMap<>();
    private final Map<Integer, Fault> faults = new TreeMap<>();
    private final List<Alarm> alarms = new ArrayList<>();
    private final List<int[]> plants = new ArrayList<>();

    private static void thereIs(boolean there) {
        if (!there) {
            throw new NoSuchElementException();
        }
    }

    private static void inRange(int number, int low, int high) {
        if (number < low || number > high) {
            throw new IllegalArgumentException();
        }
    }

    private static void asItIs(boolean right) {
        if (!right) {
            throw new IllegalStateException();
        }
    }

    private static void room(boolean left) {
        if (!left) {
            throw new UnsupportedOperationException();
        }
    }

    private void thereIsPiece(int piece) {
        thereIs(piece >= 0 && piece < links.size());
    }

    private Robot robotOf(int robot) {
        thereIs(robot >= 0 && robot < robots.size());
        return robots.get(robot);
    }

    private Fault faultOf(int fault) {
        thereIs(faults.containsKey(fault));
        return faults.get(fault);
    }

    private Alarm alarmOf(int alarm) {
        thereIs(alarm >= 0 && alarm < alarms.size());
        return alarms.get(alarm);
    }

    private int openNumber(int robot, int kind) {
        for (Map.Entry<Integer, Fault> each : faults.entrySet()) {
            Fault fault = each.getValue();
            if (fault.reset < 0 && fault.robot == robot && fault.kind == kind) {
                return each.getKey();
            }
        }
        return 0;
    }

    private int openBits(int robot) {
        int bits = 0;
        for (int kind = 0; kind < 8; kind++) {
            if (openNumber(robot, kind) != 0) {
                bits += 1 << kind;
            }
        }
        return bits;
    }

    int piece() {
        room(links.size() < 20);
        links.add(new TreeSet<>());
        return links.size() - 1;
    }

    int link(int piece, int other) {
        thereIsPiece(piece);
        thereIsPiece(other);
        if (piece == other) {
            throw new IllegalArgumentException();
        }
        links.get(piece).add(other);
        links.get(other).add(piece);
        return 0;
    }

    int robot(int piece) {
        thereIsPiece(piece);
        room(robots.size() < 8);
        Robot robot = new Robot();
        robot.piece = piece;
        robots.add(robot);
        return robots.size() - 1;
    }

    int rule(int kind, int persons, boolean test, int rank) {
        inRange(kind, 0, 7);
        inRange(persons, 1, 2);
        inRange(rank, 1, 5);
        rules.put(kind, new int[] {persons, test ? 1 : 0, rank});
        return 0;
    }

    int move(int number, int piece) {
        Robot robot = robotOf(number);
        thereIsPiece(piece);
        asItIs(robot.state == State.GOING && links.get(robot.piece).contains(piece));
        robot.piece = piece;
        return 0;
    }

    int load(int number, int unit) {
        Robot robot = robotOf(number);
        inRange(unit, -1, 99);
        asItIs(robot.state != State.LOST);
        robot.unit = unit;
        return 0;
    }

    int fault(int number, int kind) {
        return comes(number, kind, false);
    }

    private int comes(int number, int kind, boolean planted) {
        Robot robot = robotOf(number);
        inRange(kind, 0, 7);
        asItIs(kind != 2 || robot.unit >= 0);
        room(faults.size() < 40);
        if (openNumber(number, kind) != 0) {
            return -openNumber(number, kind);
        }
        int[] rule = rules.getOrDefault(kind, new int[] {1, 0, 3});
        Fault fault = new Fault();
        fault.robot = number;
        fault.kind = kind;
        fault.second = time;
        fault.needed = rule[0];
        fault.planted = planted;
        fault.piece = robot.piece;
        int made = faults.size() + 1;
        faults.put(made, fault);
        fault.alarm = joinedAlarm(number, kind, rule[2]);
        alarms.get(fault.alarm).faults.add(made);
        alarms.get(fault.alarm).person = -1;
        if (kind == 2) {
            fault.lost = robot.unit;
            robot.unit = -1;
        }
        if (kind == 1) {
            robot.state = State.LOST;
            robot.lostAt = time;
        }
        if (robot.state == State.GOING) {
            robot.state = State.STOPPED;
        }
        robot.wantsTest |= rule[1] == 1;
        return made;
    }

    private int lastSecond(Alarm alarm) {
        return faults.get(alarm.faults.get(alarm.faults.size() - 1)).second;
    }

    private int joinedAlarm(int robot, int kind, int rank) {
        for (int i = alarms.size() - 1; i >= 0; i--) {
            Alarm alarm = alarms.get(i);
            if (alarm.robot == robot && alarm.kind == kind) {
                if (time <= lastSecond(alarm) + 60) {
                    return i;
                }
                break;
            }
        }
        Alarm alarm = new Alarm();
        alarm.robot = robot;
        alarm.kind = kind;
        alarm.rank = rank;
        alarms.add(alarm);
        return alarms.size() - 1;
    }

    int step(int number, int person) {
        Fault fault = faultOf(number);
        inRange(person, 0, 7);
        asItIs(fault.reset < 0);
        if (!fault.persons.add(person)) {
            return 2;
        }
        if (fault.persons.size() < fault.needed) {
            return 0;
        }
        fault.reset = time;
        return 1;
    }

    int test(int number, boolean good) {
        Robot robot = robotOf(number);
        asItIs(robot.state == State.STOPPED || robot.state == State.TOWED);
        asItIs(openBits(number) == 0);
        robot.wantsTest = !good;
        return robot.wantsTest ? 0 : 1;
    }

    int resume(int number) {
        Robot robot = robotOf(number);
        asItIs(robot.state != State.GOING);
        if (openBits(number) != 0) {
            return -1;
        }
        if (robot.state == State.LOST) {
            return -2;
        }
        if (robot.wantsTest) {
            return -3;
        }
        robot.state = State.GOING;
        return 1;
    }

    /** Each piece that can be reached with the fewest links that lead there. */
    private TreeMap<Integer, Integer> ways(Robot robot) {
        TreeMap<Integer, Integer> ways = new TreeMap<>();
        ways.put(robot.piece, 0);
        List<Integer> next = new ArrayList<>(List.of(robot.piece));
        for (int i = 0; i < next.size(); i++) {
            for (int neighbour : links.get(next.get(i))) {
                if (ways.putIfAbsent(neighbour, ways.get(next.get(i)) + 1) == null) {
                    next.add(neighbour);
                }
            }
        }
        ways.values().removeIf(way -> way * 10 > time - robot.lostAt);
        return ways;
    }

    int zone(int number, int i) {
        Robot robot = robotOf(number);
        inRange(i, 0, Integer.MAX_VALUE);
        asItIs(robot.state == State.LOST);
        List<Integer> pieces = new ArrayList<>(ways(robot).keySet());
        return i < pieces.size() ? pieces.get(i) : -1;
    }

    int found(int number, int piece) {
        Robot robot = robotOf(number);
        thereIsPiece(piece);
        asItIs(robot.state == State.LOST && ways(robot).containsKey(piece));
        int links = ways(robot).get(piece);
        robot.state = State.STOPPED;
        robot.piece = piece;
        return links;
    }

    int tow(int number, int piece) {
        Robot robot = robotOf(number);
        thereIsPiece(piece);
        asItIs(robot.state == State.STOPPED || robot.state == State.TOWED);
        robot.state = State.TOWED;
        robot.piece = piece;
        return 0;
    }

    int plant(int robot, int kind, int seconds) {
        robotOf(robot);
        inRange(kind, 0, 7);
        inRange(seconds, 1, 1000);
        room(plants.size() < 10);
        plants.add(new int[] {robot, kind, time + seconds});
        return 0;
    }

    int pass(int seconds) {
        inRange(seconds, 0, 1000);
        inRange(time + seconds, 0, 100000);
        int rose = 0;
        for (int i = 0; i < seconds; i++) {
            time++;
            plantedCome();
            for (Alarm alarm : alarms) {
                rose += rises(alarm);
            }
        }
        return rose;
    }

    private void plantedCome() {
        for (Iterator<int[]> each = plants.iterator(); each.hasNext();) {
            int[] plant = each.next();
            if (plant[2] == time) {
                each.remove();
                try {
                    comes(plant[0], plant[1], true);
                } catch (IllegalStateException | UnsupportedOperationException e) {
                    // Refused: it is gone.
                }
            }
        }
    }

    private int rises(Alarm alarm) {
        Fault last = faults.get(alarm.faults.get(alarm.faults.size() - 1));
        int since = time - last.second;
        if (alarm.person >= 0 || last.reset >= 0 || alarm.level == 3 || since == 0 || since % 30 != 0) {
            return 0;
        }
        alarm.level++;
        return 1;
    }

    int acknowledge(int number, int person) {
        Alarm alarm = alarmOf(number);
        inRange(person, 0, 7);
        asItIs(alarm.person < 0);
        alarm.person = person;
        return alarm.level;
    }

    int alarm(int number, int what) {
        Alarm alarm = alarmOf(number);
        inRange(what, 0, 6);
        int[] all = {alarm.robot, alarm.kind, alarm.rank, alarm.level, alarm.faults.size(), alarm.person,
            lastSecond(alarm)};
        return all[what];
    }

    int known(int number, int what) {
        Fault fault = faultOf(number);
        inRange(what, 0, 8);
        int bits = 0;
        for (int person : fault.persons) {
            bits += 1 << person;
        }
        int[] all = {fault.robot, fault.kind, fault.second, fault.reset, fault.alarm, bits, fault.planted ? 1 : 0,
            fault.piece, fault.lost};
        return all[what];
    }

    int told(int number, int what) {
        Robot robot = robotOf(number);
        inRange(what, 0, 4);
        int[] all = {robot.state.ordinal(), robot.piece, robot.unit, openBits(number), robot.wantsTest ? 1 : 0};
        return all[what];
    }

    int first() {
        List<Integer> order = new ArrayList<>();
        for (int i = 0; i < alarms.size(); i++) {
            if (alarms.get(i).person < 0) {
                order.add(i);
            }
        }
        order.sort((a, b) -> {
            Alarm one = alarms.get(a);
            Alarm other = alarms.get(b);
            return one.level != other.level ? other.level - one.level
                    : one.rank != other.rank ? one.rank - other.rank : a - b;
        });
        return order.isEmpty() ? -1 : order.get(0);
    }

    int count(int what) {
        int open = 0;
        int together = 0;
        for (Fault fault : faults.values()) {
            open += fault.reset < 0 ? 1 : 0;
            together += (fault.reset < 0 ? time : fault.reset) - fault.second;
        }
        int unheard = 0;
        for (Alarm alarm : alarms) {
            unheard += alarm.person < 0 ? 1 : 0;
        }
        int[] all = {links.size(), robots.size(), faults.size(), open, alarms.size(), unheard, time, together,
            plants.size()};
        return what >= 0 && what < all.length ? all[what] : -1;
    }
}
