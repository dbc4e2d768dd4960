import java.util.NoSuchElementException;

/**
 * Faults of robots: what stops them, who resets it, where a lost robot may be, and the alarms that rise.
 *
 * <p>Every slot of an array that holds nothing yet is null, so that "is there such a one" is one test of the
 * index and one of the slot, and no number from outside ever reaches an array untested.
 */
public final class RobotFaults {
    private static final int NONE = -1;

    private static final int MAX_TIME = 100000;
    private static final int MAX_SECONDS = 1000;
    private static final int MAX_PIECES = 20;
    private static final int MAX_ROBOTS = 8;
    private static final int MAX_UNIT = 99;
    private static final int MAX_FAULTS = 40;
    private static final int MAX_ALARMS = 40;
    private static final int MAX_PLANTED = 10;
    private static final int MAX_RANK = 5;
    private static final int MAX_LEVEL = 3;
    private static final int KINDS = 8;
    private static final int PERSONS = 8;

    private static final int LOST_CONNECTION = 1;
    private static final int LOST_LOAD = 2;

    private static final int GOING = 0;
    private static final int STOPPED = 1;
    private static final int LOST = 2;
    private static final int TOWED = 3;

    private static final int SECONDS_A_LINK = 10;
    private static final int SECONDS_TO_JOIN = 60;
    private static final int SECONDS_TO_RISE = 30;

    private final Track track = new Track();
    private final Rule[] rules = new Rule[KINDS];
    private final Robot[] robots = new Robot[MAX_ROBOTS];
    private final Fault[] faults = new Fault[MAX_FAULTS];
    private final Alarm[] alarms = new Alarm[MAX_ALARMS];
    private final Planted[] plants = new Planted[MAX_PLANTED];
    private int robotCount;
    private int faultCount;
    private int alarmCount;
    private int plantCount;
    private int time;

    public RobotFaults() {
        for (int kind = 0; kind < KINDS; kind++) {
            rules[kind] = new Rule();
        }
    }

    public int piece() throws UnsupportedOperationException {
        if (track.isFull()) {
            throw new UnsupportedOperationException("no room for another piece");
        }
        return track.add();
    }

    public void link(int piece, int other) throws NoSuchElementException, IllegalArgumentException {
        needPiece(piece);
        needPiece(other);
        if (piece == other) {
            throw new IllegalArgumentException("a piece is not linked with itself");
        }
        track.connect(piece, other);
    }

    public int robot(int piece) throws NoSuchElementException, UnsupportedOperationException {
        needPiece(piece);
        if (robotCount >= robots.length) {
            throw new UnsupportedOperationException("no room for another robot");
        }
        Robot made = new Robot(robotCount, piece);
        robots[robotCount] = made;
        robotCount++;
        return made.number;
    }

    public void rule(int kind, int persons, boolean test, int rank) throws IllegalArgumentException {
        needKind(kind);
        if (persons < 1 || persons > 2) {
            throw new IllegalArgumentException("one person resets, or two do");
        }
        if (rank < 1 || rank > MAX_RANK) {
            throw new IllegalArgumentException("a rank is 1 to 5");
        }
        rules[kind].set(persons, test, rank);
    }

    public void move(int robot, int piece) throws NoSuchElementException, IllegalStateException {
        Robot mover = robotAt(robot);
        needPiece(piece);
        if (mover.state != GOING) {
            throw new IllegalStateException("the robot is not going");
        }
        if (!track.areConnected(mover.piece, piece)) {
            throw new IllegalStateException("the pieces are not linked");
        }
        mover.piece = piece;
    }

    public void load(int robot, int unit)
            throws NoSuchElementException, IllegalArgumentException, IllegalStateException {
        Robot carrier = robotAt(robot);
        if (unit < NONE || unit > MAX_UNIT) {
            throw new IllegalArgumentException("a unit is 0 to 99, or -1 for none");
        }
        if (carrier.state == LOST) {
            throw new IllegalStateException("the robot is lost");
        }
        carrier.unit = unit;
    }

    public int fault(int robot, int kind)
            throws NoSuchElementException, IllegalArgumentException, IllegalStateException,
            UnsupportedOperationException {
        Robot faulty = robotAt(robot);
        needKind(kind);
        if (hasNoLoadToLose(faulty, kind)) {
            throw new IllegalStateException("the robot carries nothing that it could lose");
        }
        if (!hasRoomForFault()) {
            throw new UnsupportedOperationException("no room for another fault");
        }
        return openOrNewFault(faulty, kind, false);
    }

    public int step(int fault, int person)
            throws NoSuchElementException, IllegalArgumentException, IllegalStateException {
        Fault stepped = faultAt(fault);
        needPerson(person);
        if (!stepped.isOpen()) {
            throw new IllegalStateException("the fault is reset");
        }
        if (holds(stepped.steps, person)) {
            return 2;
        }
        stepped.addStep(person, time);
        return stepped.isOpen() ? 0 : 1;
    }

    public boolean test(int robot, boolean good) throws NoSuchElementException, IllegalStateException {
        Robot tested = robotAt(robot);
        if (tested.state == GOING || tested.state == LOST) {
            throw new IllegalStateException("a robot that is going or lost is not tested");
        }
        if (openKinds(tested) != 0) {
            throw new IllegalStateException("the robot has an open fault");
        }
        tested.wantsTest = !good;
        return good;
    }

    public int resume(int robot) throws NoSuchElementException, IllegalStateException {
        Robot resumed = robotAt(robot);
        if (resumed.state == GOING) {
            throw new IllegalStateException("the robot is going");
        }
        if (openKinds(resumed) != 0) {
            return -1;
        }
        if (resumed.state == LOST) {
            return -2;
        }
        if (resumed.wantsTest) {
            return -3;
        }
        resumed.state = GOING;
        return 1;
    }

    public int zone(int robot, int i)
            throws NoSuchElementException, IllegalArgumentException, IllegalStateException {
        Robot sought = robotAt(robot);
        if (i < 0) {
            throw new IllegalArgumentException("places are counted from 0");
        }
        needLost(sought);
        int left = i;
        int pieces = piecesOfLost(sought);
        for (int piece = 0; piece < MAX_PIECES; piece++) {
            if (holds(pieces, piece)) {
                if (left == 0) {
                    return piece;
                }
                left--;
            }
        }
        return NONE;
    }

    public int found(int robot, int piece) throws NoSuchElementException, IllegalStateException {
        Robot sought = robotAt(robot);
        needPiece(piece);
        needLost(sought);
        if (!holds(piecesOfLost(sought), piece)) {
            throw new IllegalStateException("the robot may not be on this piece");
        }
        int links = track.fewestLinks(sought.piece, piece);
        sought.state = STOPPED;
        sought.piece = piece;
        return links;
    }

    public void tow(int robot, int piece) throws NoSuchElementException, IllegalStateException {
        Robot towed = robotAt(robot);
        needPiece(piece);
        if (towed.state != STOPPED && towed.state != TOWED) {
            throw new IllegalStateException("only a stopped or towed robot is towed");
        }
        towed.state = TOWED;
        towed.piece = piece;
    }

    public void plant(int robot, int kind, int seconds)
            throws NoSuchElementException, IllegalArgumentException, UnsupportedOperationException {
        Robot target = robotAt(robot);
        needKind(kind);
        if (seconds < 1 || seconds > MAX_SECONDS) {
            throw new IllegalArgumentException("a fault is planted 1 to 1000 seconds ahead");
        }
        if (plantCount >= plants.length) {
            throw new UnsupportedOperationException("no room for another planted fault");
        }
        plants[plantCount] = new Planted(target, kind, time + seconds);
        plantCount++;
    }

    public int pass(int seconds) throws IllegalArgumentException {
        if (seconds < 0 || seconds > MAX_SECONDS) {
            throw new IllegalArgumentException("0 to 1000 seconds go by");
        }
        if (time + seconds > MAX_TIME) {
            throw new IllegalArgumentException("time ends at 100000");
        }
        int end = time + seconds;
        int rose = 0;
        for (int i = 0; i < seconds && time < end; i++) {
            time = nextBusySecond(end);
            letPlantedCome();
            rose += raiseAlarms();
        }
        return rose;
    }

    public int acknowledge(int alarm, int person)
            throws NoSuchElementException, IllegalArgumentException, IllegalStateException {
        Alarm heard = alarmAt(alarm);
        needPerson(person);
        if (heard.isAcknowledged()) {
            throw new IllegalStateException("somebody acknowledged the alarm");
        }
        heard.person = person;
        return heard.level;
    }

    public int alarm(int alarm, int what) throws NoSuchElementException, IllegalArgumentException {
        Alarm asked = alarmAt(alarm);
        switch (what) {
            case 0:
                return asked.robot.number;
            case 1:
                return asked.kind;
            case 2:
                return asked.rank;
            case 3:
                return asked.level;
            case 4:
                return asked.joined;
            case 5:
                return asked.person;
            case 6:
                return asked.last.second;
            default:
                throw new IllegalArgumentException("of an alarm 0 to 6 is asked");
        }
    }

    public int known(int fault, int what) throws NoSuchElementException, IllegalArgumentException {
        Fault asked = faultAt(fault);
        switch (what) {
            case 0:
                return asked.robot.number;
            case 1:
                return asked.kind;
            case 2:
                return asked.second;
            case 3:
                return asked.resetSecond;
            case 4:
                return asked.alarm;
            case 5:
                return asked.steps;
            case 6:
                return asked.planted ? 1 : 0;
            case 7:
                return asked.piece;
            case 8:
                return asked.lostUnit;
            default:
                throw new IllegalArgumentException("of a fault 0 to 8 is asked");
        }
    }

    public int told(int robot, int what) throws NoSuchElementException, IllegalArgumentException {
        Robot asked = robotAt(robot);
        switch (what) {
            case 0:
                return asked.state;
            case 1:
                return asked.piece;
            case 2:
                return asked.unit;
            case 3:
                return openKinds(asked);
            case 4:
                return asked.wantsTest ? 1 : 0;
            default:
                throw new IllegalArgumentException("of a robot 0 to 4 is asked");
        }
    }

    public int first() {
        int best = NONE;
        for (int i = 0; i < alarms.length; i++) {
            Alarm alarm = alarms[i];
            if (alarm != null && !alarm.isAcknowledged()) {
                Alarm leader = best < 0 ? null : alarms[best];
                if (leader == null || alarm.comesBefore(leader)) {
                    best = i;
                }
            }
        }
        return best;
    }

    public int count(int what) {
        switch (what) {
            case 0:
                return track.size();
            case 1:
                return robotCount;
            case 2:
                return faultCount;
            case 3:
                return openFaultCount();
            case 4:
                return alarmCount;
            case 5:
                return unheardAlarmCount();
            case 6:
                return time;
            case 7:
                return openSeconds();
            case 8:
                return plantCount;
            default:
                return NONE;
        }
    }

    private void needPiece(int piece) {
        if (!track.has(piece)) {
            throw new NoSuchElementException("there is no such piece");
        }
    }

    private Robot robotAt(int number) {
        Robot robot = number >= 0 && number < robots.length ? robots[number] : null;
        if (robot == null) {
            throw new NoSuchElementException("there is no such robot");
        }
        return robot;
    }

    private Fault faultAt(int number) {
        Fault fault = number >= 1 && number <= faults.length ? faults[number - 1] : null;
        if (fault == null) {
            throw new NoSuchElementException("there is no such fault");
        }
        return fault;
    }

    private Alarm alarmAt(int number) {
        Alarm alarm = number >= 0 && number < alarms.length ? alarms[number] : null;
        if (alarm == null) {
            throw new NoSuchElementException("there is no such alarm");
        }
        return alarm;
    }

    private static void needKind(int kind) {
        if (kind < 0 || kind >= KINDS) {
            throw new IllegalArgumentException("a kind is 0 to 7");
        }
    }

    private static void needPerson(int person) {
        if (person < 0 || person >= PERSONS) {
            throw new IllegalArgumentException("a person is 0 to 7");
        }
    }

    private static void needLost(Robot robot) {
        if (robot.state != LOST) {
            throw new IllegalStateException("the robot is not lost");
        }
    }

    private static boolean holds(int bits, int number) {
        return (bits >> number & 1) == 1;
    }

    private static boolean hasNoLoadToLose(Robot robot, int kind) {
        return kind == LOST_LOAD && robot.unit == NONE;
    }

    /** Looks at the alarms too, since each fault may bring a new one. */
    private boolean hasRoomForFault() {
        return faultCount < faults.length && alarmCount < alarms.length;
    }

    private int openOrNewFault(Robot robot, int kind, boolean planted) {
        Fault open = openFault(robot, kind);
        return open == null ? newFault(robot, kind, planted) : -open.number;
    }

    private Fault openFault(Robot robot, int kind) {
        for (Fault fault : faults) {
            if (fault != null && fault.isOpen() && fault.robot == robot && fault.kind == kind) {
                return fault;
            }
        }
        return null;
    }

    /** Called only where there is room, so the slot behind the last fault is one of the array's. */
    private int newFault(Robot robot, int kind, boolean planted) {
        Rule rule = rules[kind];
        Fault fault = new Fault(faultCount + 1, robot, kind, time, rule.persons, planted);
        faults[faultCount] = fault;
        faultCount++;
        fault.alarm = alarmFor(fault, rule.rank);
        robot.suffer(kind, time, rule.test);
        return fault.number;
    }

    private int alarmFor(Fault fault, int rank) {
        Alarm latest = latestAlarm(fault.robot, fault.kind);
        if (latest != null && time - latest.last.second <= SECONDS_TO_JOIN) {
            latest.join(fault);
            return latest.number;
        }
        Alarm raised = new Alarm(alarmCount, fault, rank);
        alarms[alarmCount] = raised;
        alarmCount++;
        return raised.number;
    }

    private Alarm latestAlarm(Robot robot, int kind) {
        Alarm latest = null;
        for (Alarm alarm : alarms) {
            if (alarm != null && alarm.robot == robot && alarm.kind == kind) {
                latest = alarm;
            }
        }
        return latest;
    }

    private int openKinds(Robot robot) {
        int kinds = 0;
        for (Fault fault : faults) {
            if (fault != null && fault.isOpen() && fault.robot == robot) {
                kinds |= 1 << fault.kind;
            }
        }
        return kinds;
    }

    /** The pieces on which a lost robot may be, as bits; its piece stays its last one while it is lost. */
    private int piecesOfLost(Robot robot) {
        return track.reach(robot.piece, (time - robot.lostSecond) / SECONDS_A_LINK);
    }

    /**
     * The next second, at most the end, in which a planted fault comes or an alarm rises. In the seconds before it
     * nothing happens, so they need not be gone through.
     */
    private int nextBusySecond(int end) {
        int next = end;
        for (Planted plant : plants) {
            if (plant != null) {
                next = Math.min(next, plant.second);
            }
        }
        for (Alarm alarm : alarms) {
            if (alarm != null && alarm.canRise()) {
                next = Math.min(next, alarm.nextRise(time));
            }
        }
        return next;
    }

    /** Those still to come close up, so that they stay in the order in which they were planted. */
    private void letPlantedCome() {
        int kept = 0;
        for (int i = 0; i < plants.length; i++) {
            Planted plant = plants[i];
            plants[i] = null;
            if (plant != null && plant.second <= time) {
                bring(plant);
            } else if (plant != null) {
                plants[kept] = plant;
                kept++;
            }
        }
        plantCount = kept;
    }

    private void bring(Planted plant) {
        if (!hasNoLoadToLose(plant.robot, plant.kind) && hasRoomForFault()) {
            openOrNewFault(plant.robot, plant.kind, true);
        }
    }

    private int raiseAlarms() {
        int rose = 0;
        for (Alarm alarm : alarms) {
            if (alarm != null && alarm.canRise() && alarm.isRiseSecond(time)) {
                alarm.level++;
                rose++;
            }
        }
        return rose;
    }

    private int openFaultCount() {
        int open = 0;
        for (Fault fault : faults) {
            if (fault != null && fault.isOpen()) {
                open++;
            }
        }
        return open;
    }

    private int unheardAlarmCount() {
        int unheard = 0;
        for (Alarm alarm : alarms) {
            if (alarm != null && !alarm.isAcknowledged()) {
                unheard++;
            }
        }
        return unheard;
    }

    private int openSeconds() {
        int seconds = 0;
        for (Fault fault : faults) {
            if (fault != null) {
                seconds += fault.openSecondsUntil(time);
            }
        }
        return seconds;
    }

    /** The pieces and their links; sets of pieces are bits, so that a search makes no objects. */
    private static final class Track {
        private final int[] neighbours = new int[MAX_PIECES];
        private int size;

        int size() {
            return size;
        }

        boolean isFull() {
            return size >= neighbours.length;
        }

        boolean has(int piece) {
            return piece >= 0 && piece < size;
        }

        int add() {
            int piece = size;
            size++;
            return piece;
        }

        void connect(int piece, int other) {
            neighbours[piece] |= 1 << other;
            neighbours[other] |= 1 << piece;
        }

        boolean areConnected(int piece, int other) {
            return holds(neighbours[piece], other);
        }

        int reach(int from, int mostLinks) {
            int reached = 1 << from;
            for (int links = 0; links < mostLinks && links < MAX_PIECES; links++) {
                reached |= around(reached);
            }
            return reached;
        }

        /** For a piece that can be reached: no way without a detour has as many links as there may be pieces. */
        int fewestLinks(int from, int to) {
            int links = 0;
            while (links < MAX_PIECES && !holds(reach(from, links), to)) {
                links++;
            }
            return links;
        }

        private int around(int pieces) {
            int found = 0;
            for (int piece = 0; piece < size; piece++) {
                if (holds(pieces, piece)) {
                    found |= neighbours[piece];
                }
            }
            return found;
        }
    }

    private static final class Rule {
        private int persons = 1;
        private boolean test = false;
        private int rank = 3;

        void set(int newPersons, boolean newTest, int newRank) {
            persons = newPersons;
            test = newTest;
            rank = newRank;
        }
    }

    private static final class Robot {
        private final int number;
        private int piece;
        private int state = GOING;
        private int unit = NONE;
        private boolean wantsTest = false;
        private int lostSecond = 0;

        Robot(int number, int piece) {
            this.number = number;
            this.piece = piece;
        }

        void suffer(int kind, int second, boolean testWanted) {
            if (kind == LOST_CONNECTION) {
                state = LOST;
                lostSecond = second;
            } else if (state == GOING) {
                state = STOPPED;
            }
            if (kind == LOST_LOAD) {
                unit = NONE;
            }
            if (testWanted) {
                wantsTest = true;
            }
        }
    }

    private static final class Fault {
        private final int number;
        private final Robot robot;
        private final int kind;
        private final int second;
        private final int persons;
        private final boolean planted;
        private final int piece;
        private final int lostUnit;
        private int alarm = NONE;
        private int steps = 0;
        private int resetSecond = NONE;

        /** Made before the robot suffers it, while the robot still has the unit that it loses. */
        Fault(int number, Robot robot, int kind, int second, int persons, boolean planted) {
            this.number = number;
            this.robot = robot;
            this.kind = kind;
            this.second = second;
            this.persons = persons;
            this.planted = planted;
            this.piece = robot.piece;
            this.lostUnit = kind == LOST_LOAD ? robot.unit : NONE;
        }

        boolean isOpen() {
            return resetSecond == NONE;
        }

        void addStep(int person, int now) {
            steps |= 1 << person;
            if (Integer.bitCount(steps) >= persons) {
                resetSecond = now;
            }
        }

        int openSecondsUntil(int now) {
            return (isOpen() ? now : resetSecond) - second;
        }
    }

    private static final class Alarm {
        private final int number;
        private final Robot robot;
        private final int kind;
        private final int rank;
        private int level = 0;
        private int joined = 1;
        private int person = NONE;
        private Fault last;

        Alarm(int number, Fault cause, int rank) {
            this.number = number;
            this.robot = cause.robot;
            this.kind = cause.kind;
            this.rank = rank;
            this.last = cause;
        }

        boolean isAcknowledged() {
            return person != NONE;
        }

        void join(Fault fault) {
            last = fault;
            joined++;
            person = NONE;
        }

        boolean canRise() {
            return !isAcknowledged() && last.isOpen() && level < MAX_LEVEL;
        }

        boolean isRiseSecond(int now) {
            return now > last.second && (now - last.second) % SECONDS_TO_RISE == 0;
        }

        int nextRise(int now) {
            int rises = (now - last.second) / SECONDS_TO_RISE + 1;
            return last.second + rises * SECONDS_TO_RISE;
        }

        boolean comesBefore(Alarm other) {
            return level != other.level ? level > other.level : rank < other.rank;
        }
    }

    private static final class Planted {
        private final Robot robot;
        private final int kind;
        private final int second;

        Planted(Robot robot, int kind, int second) {
            this.robot = robot;
            this.kind = kind;
            this.second = second;
        }
    }
}
