import java.util.NoSuchElementException;

/** A workshop for clockwork planets. The document DOC.md tells what each method promises. */
public final class PlanetWorkshop {
    private static final int MAX_GEARS = 10;
    private static final int MAX_JOINTS = 15;
    private static final int MAX_PLANETS = 6;
    private static final int MAX_PAIRS = 90;
    private static final int MAX_UNDO = 8;
    private static final int MAX_SCRIPT = 60;
    private static final int MAX_DIGITS = 3;
    private static final int MAX_DROPS = 99;
    private static final int MAX_ECLIPSE = 999;
    private static final int MAX_RATIO = 60;
    private static final int CHECKED_RATIOS = 10;
    private static final int FIRST_DROPS = 12;

    private static final long TURN = 24883200000L;
    private static final long DRY_WEAR = 30L * TURN;

    private static final char NO_JOINT = 0;
    private static final char MESH = 'm';
    private static final char AXLE = 'a';

    /** Stands for a gear, a position or a command that is not there. */
    private static final int NONE = -1;

    // Outcomes of a change that was refused; every other outcome is 0 or more.
    private static final int NO_SUCH_INDEX = -1;
    private static final int WRONG_ARGUMENT = -2;
    private static final int WRONG_STATE = -3;
    private static final int NOT_SUPPORTED = -4;
    private static final int NOT_FOUND = -5;
    private static final int ACCEPTED = 0;

    // What stands behind the word of a command.
    private static final int NUMBER = 0;
    private static final int DIGIT = 1;
    private static final int TWO_DIGITS = 2;
    private static final int DIGIT_AND_NUMBER = 3;

    private static final int[] TEETH = {6, 8, 10, 12, 15, 20, 24, 30, 40, 60};
    private static final Verb[] VERBS = Verb.values();

    private final State now = new State();
    private final State before = new State();
    private final State snapshot = new State();
    private boolean hasSnapshot = false;
    private final History history = new History();
    private final Train train = new Train();
    private final Changes changes = new Changes(now, train);
    private final Eclipses eclipses = new Eclipses(now, train);
    private final Ratios ratios = new Ratios(now);
    private final Script script = new Script();
    private final StringBuilder output = new StringBuilder();
    private int wrongPosition = NONE;
    private int wrongCommand = NONE;

    public PlanetWorkshop() {
    }

    public int addGear(int teeth) throws IllegalArgumentException, IllegalStateException {
        before.copyFrom(now);
        return settle(changes.putGear(teeth));
    }

    public int mesh(int one, int other) throws IndexOutOfBoundsException, IllegalArgumentException,
            IllegalStateException, UnsupportedOperationException {
        before.copyFrom(now);
        return settle(changes.join(one, other, MESH));
    }

    public int shareAxle(int one, int other) throws IndexOutOfBoundsException,
            IllegalArgumentException, IllegalStateException, UnsupportedOperationException {
        before.copyFrom(now);
        return settle(changes.join(one, other, AXLE));
    }

    public int separate(int one, int other) throws IndexOutOfBoundsException,
            NoSuchElementException {
        before.copyFrom(now);
        return settle(changes.cut(one, other));
    }

    public int setSpring(int gear, int size) throws IndexOutOfBoundsException,
            IllegalArgumentException, IllegalStateException {
        before.copyFrom(now);
        return settle(changes.putSpring(gear, size));
    }

    public int wind(int gear, int amount) throws IndexOutOfBoundsException,
            IllegalArgumentException, NoSuchElementException, IllegalStateException {
        before.copyFrom(now);
        return settle(changes.tighten(gear, amount));
    }

    public boolean reverse(int gear) throws IndexOutOfBoundsException, NoSuchElementException {
        before.copyFrom(now);
        return settle(changes.turnRound(gear)) == 1;
    }

    public int release(int gear, int turns) throws IndexOutOfBoundsException,
            IllegalArgumentException, NoSuchElementException, UnsupportedOperationException {
        before.copyFrom(now);
        return settle(changes.letGo(gear, turns));
    }

    public boolean setRatchet(int gear, boolean isSet) throws IndexOutOfBoundsException {
        before.copyFrom(now);
        return settle(changes.putRatchet(gear, isSet)) == 1;
    }

    public int oil(int gear) throws IndexOutOfBoundsException, IllegalStateException,
            UnsupportedOperationException {
        before.copyFrom(now);
        return settle(changes.putOil(gear));
    }

    public int buyOil(int drops) throws IllegalArgumentException, IllegalStateException {
        before.copyFrom(now);
        return settle(changes.addDrops(drops));
    }

    public int addPlanet(int gear) throws IndexOutOfBoundsException, IllegalStateException {
        before.copyFrom(now);
        return settle(changes.putPlanet(gear));
    }

    public int gearCount() {
        return now.gears;
    }

    public int teeth(int gear) throws IndexOutOfBoundsException {
        checkGear(gear);
        return now.teeth[gear];
    }

    public char joint(int one, int other) throws IndexOutOfBoundsException, NoSuchElementException {
        checkGear(one);
        checkGear(other);
        char kind = now.jointOf(one, other);
        if (kind == NO_JOINT) {
            throw new NoSuchElementException();
        }
        return kind;
    }

    public int jointCount() {
        return now.joints;
    }

    public int trainSize(int gear) throws IndexOutOfBoundsException {
        checkGear(gear);
        train.trace(now, gear);
        return train.size;
    }

    public boolean areInTrain(int one, int other) throws IndexOutOfBoundsException {
        checkGear(one);
        checkGear(other);
        train.trace(now, one);
        return train.holds(other);
    }

    public long unitsPerTurn(int driver, int gear) throws IndexOutOfBoundsException,
            NoSuchElementException {
        checkSameTrain(driver, gear);
        return unitsByChain(driver, gear);
    }

    public long unitsPerTurnByLowest(int driver, int gear) throws IndexOutOfBoundsException,
            NoSuchElementException {
        checkSameTrain(driver, gear);
        return unitsByLowest(driver, gear);
    }

    public long angle(int gear) throws IndexOutOfBoundsException {
        checkGear(gear);
        return now.angles[gear];
    }

    public double anglePart(int gear) throws IndexOutOfBoundsException {
        checkGear(gear);
        return (double) now.angles[gear] / (double) TURN;
    }

    public int tension(int gear) throws IndexOutOfBoundsException, NoSuchElementException {
        checkSpring(gear);
        return now.tensions[gear];
    }

    public int springSize(int gear) throws IndexOutOfBoundsException, NoSuchElementException {
        checkSpring(gear);
        return now.springSizes[gear];
    }

    public int springOf(int gear) throws IndexOutOfBoundsException, NoSuchElementException {
        checkGear(gear);
        train.trace(now, gear);
        int holder = train.springGear(now);
        if (holder == NONE) {
            throw new NoSuchElementException();
        }
        return holder;
    }

    public int friction(int gear) throws IndexOutOfBoundsException {
        checkGear(gear);
        train.trace(now, gear);
        return train.drag(now);
    }

    public int turnsLeft(int gear) throws IndexOutOfBoundsException, NoSuchElementException {
        checkSpring(gear);
        train.trace(now, gear);
        return (int) Numbers.quotient(now.tensions[gear], train.drag(now));
    }

    public boolean canRelease(int gear) throws IndexOutOfBoundsException {
        checkGear(gear);
        train.trace(now, gear);
        return now.hasSpring(gear) && !train.isBlocked(now, gear);
    }

    public boolean hasRatchet(int gear) throws IndexOutOfBoundsException {
        checkGear(gear);
        return now.ratchets[gear];
    }

    public boolean isDry(int gear) throws IndexOutOfBoundsException {
        checkGear(gear);
        return !now.oiled[gear];
    }

    public int wear(int gear) throws IndexOutOfBoundsException, NoSuchElementException {
        checkGear(gear);
        if (!now.oiled[gear]) {
            throw new NoSuchElementException();
        }
        return (int) Numbers.quotient(now.wears[gear], TURN);
    }

    public int drops() {
        return now.drops;
    }

    public int planetCount() {
        return now.planets;
    }

    public int gearOf(int planet) throws IndexOutOfBoundsException {
        checkPlanet(planet);
        return now.carriers[planet];
    }

    public boolean areInLine(int one, int other) throws IndexOutOfBoundsException,
            IllegalArgumentException {
        checkPlanet(one);
        checkPlanet(other);
        if (one == other) {
            throw new IllegalArgumentException();
        }
        return now.angles[now.carriers[one]] == now.angles[now.carriers[other]];
    }

    public int nextEclipse(int one, int other, int key) throws IndexOutOfBoundsException,
            IllegalArgumentException, IllegalStateException, NoSuchElementException {
        refuse(eclipses.judge(one, other, key));
        return found(eclipses.bySolving(one, other, key));
    }

    public int nextEclipseByTurns(int one, int other, int key) throws IndexOutOfBoundsException,
            IllegalArgumentException, IllegalStateException, NoSuchElementException {
        refuse(eclipses.judge(one, other, key));
        return found(eclipses.byTurning(one, other, key));
    }

    public int planetByAngle(int rank) throws NoSuchElementException {
        for (int planet = 0; planet < now.planets; planet++) {
            if (now.rankByAngle(planet) == rank) {
                return planet;
            }
        }
        throw new NoSuchElementException();
    }

    public int fewestPairs(int a, int b) throws IllegalArgumentException, NoSuchElementException {
        checkRatio(a, b);
        return found(ratios.byTrying(a, b));
    }

    public int fewestPairsByTable(int a, int b) throws IllegalArgumentException,
            NoSuchElementException {
        checkRatio(a, b);
        return found(ratios.byTable(a, b));
    }

    public int woundTotal() {
        return now.wound;
    }

    public int tensionTotal() {
        return now.sumOfTensions();
    }

    public int tensionByAccounts() {
        return now.wound - now.taken;
    }

    public int releaseTotal() {
        return now.releases;
    }

    public double meanTeeth() throws ArithmeticException {
        if (now.gears == 0) {
            throw new ArithmeticException();
        }
        return (double) now.sumOfTeeth() / (double) now.gears;
    }

    public float dryShare() throws ArithmeticException {
        if (now.gears == 0) {
            throw new ArithmeticException();
        }
        return (float) now.dryGears() / (float) now.gears;
    }

    public boolean isConsistent() {
        return unitsAgree() && eclipses.bothWaysAgree() && ratios.bothWaysAgree()
                && now.sumOfTensions() == now.wound - now.taken;
    }

    public int renderGear(int gear) throws IndexOutOfBoundsException {
        checkGear(gear);
        output.setLength(0);
        output.append(gear).append(':').append(now.teeth[gear]);
        if (!now.oiled[gear]) {
            output.append('d');
        }
        if (now.ratchets[gear]) {
            output.append('r');
        }
        if (now.hasSpring(gear)) {
            output.append('s').append(now.tensions[gear]).append('/').append(now.springSizes[gear]);
            if (now.reversed[gear]) {
                output.append('-');
            }
        }
        return output.length();
    }

    public int renderTrain(int gear) throws IndexOutOfBoundsException {
        checkGear(gear);
        train.trace(now, gear);
        output.setLength(0);
        for (int member = 0; member < now.gears; member++) {
            if (train.holds(member)) {
                if (output.length() > 0) {
                    output.append(',');
                }
                output.append(member);
                if (now.carriesPlanet(member)) {
                    output.append('*');
                }
            }
        }
        return output.length();
    }

    public char outputAt(int index) throws IndexOutOfBoundsException {
        if (index < 0 || index >= output.length()) {
            throw new IndexOutOfBoundsException();
        }
        return output.charAt(index);
    }

    public int type(char character) throws IllegalArgumentException, IllegalStateException {
        if (character < 32 || character > 126) {
            throw new IllegalArgumentException();
        }
        if (script.length >= MAX_SCRIPT) {
            throw new IllegalStateException();
        }
        script.add(character);
        return script.length;
    }

    public int runScript() throws IllegalArgumentException, IllegalStateException {
        int position = script.parse();
        script.empty();
        if (position != NONE) {
            wrongPosition = position;
            throw new IllegalArgumentException();
        }
        before.copyFrom(now);
        for (int command = 0; command < script.commands; command++) {
            if (carryOut(command) < 0) {
                now.copyFrom(before);
                wrongCommand = command;
                throw new IllegalStateException();
            }
        }
        history.push(before);
        return script.commands;
    }

    public int errorPosition() throws NoSuchElementException {
        if (wrongPosition == NONE) {
            throw new NoSuchElementException();
        }
        return wrongPosition;
    }

    public int failedCommand() throws NoSuchElementException {
        if (wrongCommand == NONE) {
            throw new NoSuchElementException();
        }
        return wrongCommand;
    }

    public int undo() throws NoSuchElementException {
        if (history.count == 0) {
            throw new NoSuchElementException();
        }
        history.popInto(now);
        return history.count;
    }

    public int save() {
        snapshot.copyFrom(now);
        hasSnapshot = true;
        return now.gears;
    }

    public int restore() throws IllegalStateException {
        if (!hasSnapshot) {
            throw new IllegalStateException();
        }
        now.copyFrom(snapshot);
        history.empty();
        return now.gears;
    }

    /** Ends a call that asked for a change: throws if it was refused, else makes it undoable. */
    private int settle(int outcome) {
        refuse(outcome);
        history.push(before);
        return outcome;
    }

    private static void refuse(int outcome) {
        switch (outcome) {
            case NO_SUCH_INDEX:
                throw new IndexOutOfBoundsException();
            case WRONG_ARGUMENT:
                throw new IllegalArgumentException();
            case WRONG_STATE:
                throw new IllegalStateException();
            case NOT_SUPPORTED:
                throw new UnsupportedOperationException();
            case NOT_FOUND:
                throw new NoSuchElementException();
            default:
                break;
        }
    }

    /** The searches answer 0 when they find nothing. */
    private static int found(int number) {
        if (number == 0) {
            throw new NoSuchElementException();
        }
        return number;
    }

    private void checkGear(int gear) {
        if (!now.isGear(gear)) {
            throw new IndexOutOfBoundsException();
        }
    }

    private void checkPlanet(int planet) {
        if (!now.isPlanet(planet)) {
            throw new IndexOutOfBoundsException();
        }
    }

    private void checkSpring(int gear) {
        checkGear(gear);
        if (!now.hasSpring(gear)) {
            throw new NoSuchElementException();
        }
    }

    private void checkSameTrain(int one, int other) {
        checkGear(one);
        checkGear(other);
        train.trace(now, one);
        if (!train.holds(other)) {
            throw new NoSuchElementException();
        }
    }

    private static void checkRatio(int a, int b) {
        if (a < 1 || a > MAX_RATIO || b < 1 || b > MAX_RATIO) {
            throw new IllegalArgumentException();
        }
    }

    private long unitsByChain(int driver, int gear) {
        train.trace(now, driver);
        return train.units[gear];
    }

    private long unitsByLowest(int driver, int gear) {
        train.trace(now, driver);
        train.trace(now, train.lowestGear());
        long ofDriver = train.units[driver];
        long ofGear = train.units[gear];
        // TURN * ofGear may leave the range of long, so the fraction is brought to lowest terms
        // first; its lower part then divides TURN, since the answer is a whole number of units.
        long common = Numbers.commonDivisor(ofDriver, ofGear);
        long above = Numbers.quotient(ofGear, common);
        long below = Numbers.quotient(ofDriver, common);
        return Numbers.quotient(TURN, below) * above;
    }

    private boolean unitsAgree() {
        for (int driver = 0; driver < now.gears; driver++) {
            for (int gear = 0; gear < now.gears; gear++) {
                long units = unitsByChain(driver, gear);
                if (units != 0L && units != unitsByLowest(driver, gear)) {
                    return false;
                }
            }
        }
        return true;
    }

    private int carryOut(int command) {
        Verb verb = script.verbs[command];
        int first = script.firsts[command];
        int second = script.seconds[command];
        if (verb == null) {
            return WRONG_STATE;
        }
        switch (verb) {
            case GEAR:
                return changes.putGear(first);
            case MESHING:
                return changes.join(first, second, MESH);
            case SHARING:
                return changes.join(first, second, AXLE);
            case CUT:
                return changes.cut(first, second);
            case SPRING:
                return changes.putSpring(first, second);
            case WIND:
                return changes.tighten(first, second);
            case REVERSE:
                return changes.turnRound(first);
            case RUN:
                return changes.letGo(first, second);
            case RATCHET:
                return changes.putRatchet(first, true);
            case FREE:
                return changes.putRatchet(first, false);
            case OIL:
                return changes.putOil(first);
            case BUY:
                return changes.addDrops(first);
            case PLANET:
                return changes.putPlanet(first);
            default:
                return WRONG_STATE;
        }
    }

    /** Everything that undo and the snapshot cover. */
    private static final class State {
        final int[] teeth = new int[MAX_GEARS];
        final long[] angles = new long[MAX_GEARS];
        final boolean[] oiled = new boolean[MAX_GEARS];
        final long[] wears = new long[MAX_GEARS];
        final boolean[] ratchets = new boolean[MAX_GEARS];
        /** 0 where no spring is. */
        final int[] springSizes = new int[MAX_GEARS];
        final int[] tensions = new int[MAX_GEARS];
        final boolean[] reversed = new boolean[MAX_GEARS];
        /** The kind of each joint, held for both orders of its two gears. */
        final char[] jointKinds = new char[MAX_GEARS * MAX_GEARS];
        final int[] carriers = new int[MAX_PLANETS];
        int gears = 0;
        int joints = 0;
        int planets = 0;
        int drops = FIRST_DROPS;
        int wound = 0;
        int taken = 0;
        int releases = 0;

        void copyFrom(State other) {
            for (int gear = 0; gear < MAX_GEARS; gear++) {
                teeth[gear] = other.teeth[gear];
                angles[gear] = other.angles[gear];
                oiled[gear] = other.oiled[gear];
                wears[gear] = other.wears[gear];
                ratchets[gear] = other.ratchets[gear];
                springSizes[gear] = other.springSizes[gear];
                tensions[gear] = other.tensions[gear];
                reversed[gear] = other.reversed[gear];
            }
            for (int place = 0; place < MAX_GEARS * MAX_GEARS; place++) {
                jointKinds[place] = other.jointKinds[place];
            }
            for (int planet = 0; planet < MAX_PLANETS; planet++) {
                carriers[planet] = other.carriers[planet];
            }
            gears = other.gears;
            joints = other.joints;
            planets = other.planets;
            drops = other.drops;
            wound = other.wound;
            taken = other.taken;
            releases = other.releases;
        }

        boolean isGear(int index) {
            return index >= 0 && index < gears;
        }

        boolean isPlanet(int index) {
            return index >= 0 && index < planets;
        }

        boolean hasSpring(int gear) {
            return springSizes[gear] > 0;
        }

        char jointOf(int one, int other) {
            return jointKinds[one * MAX_GEARS + other];
        }

        void putJoint(int one, int other, char kind) {
            jointKinds[one * MAX_GEARS + other] = kind;
            jointKinds[other * MAX_GEARS + one] = kind;
        }

        /** The units that other makes when one, joined to it in this way, makes some units. */
        long unitsBehind(long units, int one, int other, char kind) {
            if (kind == AXLE) {
                return units;
            }
            return -Numbers.quotient(units * teeth[one], teeth[other]);
        }

        boolean carriesPlanet(int gear) {
            for (int planet = 0; planet < planets; planet++) {
                if (carriers[planet] == gear) {
                    return true;
                }
            }
            return false;
        }

        int rankByAngle(int planet) {
            long angle = angles[carriers[planet]];
            int rank = 0;
            for (int other = 0; other < planets; other++) {
                long otherAngle = angles[carriers[other]];
                if (otherAngle < angle || otherAngle == angle && other < planet) {
                    rank++;
                }
            }
            return rank;
        }

        int springs() {
            int number = 0;
            for (int gear = 0; gear < gears; gear++) {
                if (hasSpring(gear)) {
                    number++;
                }
            }
            return number;
        }

        int sumOfTensions() {
            int sum = 0;
            for (int gear = 0; gear < gears; gear++) {
                sum += tensions[gear];
            }
            return sum;
        }

        int sumOfTeeth() {
            int sum = 0;
            for (int gear = 0; gear < gears; gear++) {
                sum += teeth[gear];
            }
            return sum;
        }

        int dryGears() {
            int number = 0;
            for (int gear = 0; gear < gears; gear++) {
                if (!oiled[gear]) {
                    number++;
                }
            }
            return number;
        }
    }

    /** The train that was traced last. One object is used for all of them, to make no new rows. */
    private static final class Train {
        /** By how much each gear turns for one turn of the first gear; 0 outside the train. */
        final long[] units = new long[MAX_GEARS];
        private final int[] members = new int[MAX_GEARS];
        int size = 0;

        /** Goes from gear to gear in breadth, so that each is reached along a shortest chain. */
        void trace(State state, int first) {
            for (int gear = 0; gear < MAX_GEARS; gear++) {
                units[gear] = 0L;
            }
            size = 0;
            reach(first, TURN);
            for (int next = 0; next < size && next < MAX_GEARS; next++) {
                int gear = members[next];
                for (int other = 0; other < state.gears; other++) {
                    char kind = state.jointOf(gear, other);
                    if (kind != NO_JOINT && units[other] == 0L) {
                        reach(other, state.unitsBehind(units[gear], gear, other, kind));
                    }
                }
            }
        }

        private void reach(int gear, long turned) {
            if (gear >= 0 && gear < MAX_GEARS && size < MAX_GEARS) {
                units[gear] = turned;
                members[size] = gear;
                size++;
            }
        }

        boolean holds(int gear) {
            return units[gear] != 0L;
        }

        int lowestGear() {
            for (int gear = 0; gear < MAX_GEARS; gear++) {
                if (units[gear] != 0L) {
                    return gear;
                }
            }
            return NONE;
        }

        int springGear(State state) {
            for (int gear = 0; gear < state.gears; gear++) {
                if (holds(gear) && state.hasSpring(gear)) {
                    return gear;
                }
            }
            return NONE;
        }

        int drag(State state) {
            int sum = size;
            for (int gear = 0; gear < state.gears; gear++) {
                if (holds(gear) && !state.oiled[gear]) {
                    sum++;
                }
            }
            return sum;
        }

        /** Whether a ratchet keeps the train from turning as the spring of its first gear wants. */
        boolean isBlocked(State state, int first) {
            for (int gear = 0; gear < state.gears; gear++) {
                boolean isBackwards = state.reversed[first] ? units[gear] > 0L : units[gear] < 0L;
                if (isBackwards && state.ratchets[gear]) {
                    return true;
                }
            }
            return false;
        }
    }

    /** The changes. Each answers what the document returns, or why it was refused. */
    private static final class Changes {
        private final State state;
        private final Train train;

        Changes(State state, Train train) {
            this.state = state;
            this.train = train;
        }

        int putGear(int teeth) {
            if (!isToothNumber(teeth)) {
                return WRONG_ARGUMENT;
            }
            if (state.gears >= MAX_GEARS) {
                return WRONG_STATE;
            }
            int gear = state.gears;
            state.teeth[gear] = teeth;
            state.gears = gear + 1;
            return gear;
        }

        private static boolean isToothNumber(int teeth) {
            for (int number : TEETH) {
                if (number == teeth) {
                    return true;
                }
            }
            return false;
        }

        int join(int one, int other, char kind) {
            if (!state.isGear(one) || !state.isGear(other)) {
                return NO_SUCH_INDEX;
            }
            if (one == other) {
                return WRONG_ARGUMENT;
            }
            train.trace(state, other);
            int springOfOther = train.springGear(state);
            train.trace(state, one);
            boolean areInOneTrain = train.holds(other);
            boolean wouldHaveTwoSprings = !areInOneTrain && springOfOther != NONE
                    && train.springGear(state) != NONE;
            if (state.jointOf(one, other) != NO_JOINT || state.joints >= MAX_JOINTS
                    || wouldHaveTwoSprings) {
                return WRONG_STATE;
            }
            if (areInOneTrain
                    && train.units[other] != state.unitsBehind(TURN, one, other, kind)) {
                return NOT_SUPPORTED;
            }
            state.putJoint(one, other, kind);
            state.joints++;
            train.trace(state, one);
            return train.size;
        }

        int cut(int one, int other) {
            if (!state.isGear(one) || !state.isGear(other)) {
                return NO_SUCH_INDEX;
            }
            if (state.jointOf(one, other) == NO_JOINT) {
                return NOT_FOUND;
            }
            state.putJoint(one, other, NO_JOINT);
            state.joints--;
            return state.joints;
        }

        int putSpring(int gear, int size) {
            if (!state.isGear(gear)) {
                return NO_SUCH_INDEX;
            }
            if (size < 10 || size > 200) {
                return WRONG_ARGUMENT;
            }
            train.trace(state, gear);
            if (train.springGear(state) != NONE) {
                return WRONG_STATE;
            }
            state.springSizes[gear] = size;
            return state.springs();
        }

        int tighten(int gear, int amount) {
            if (!state.isGear(gear)) {
                return NO_SUCH_INDEX;
            }
            if (amount < 1 || amount > 200) {
                return WRONG_ARGUMENT;
            }
            if (!state.hasSpring(gear)) {
                return NOT_FOUND;
            }
            int tension = state.tensions[gear] + amount;
            if (tension > state.springSizes[gear]) {
                return WRONG_STATE;
            }
            state.tensions[gear] = tension;
            state.wound += amount;
            return tension;
        }

        int turnRound(int gear) {
            if (!state.isGear(gear)) {
                return NO_SUCH_INDEX;
            }
            if (!state.hasSpring(gear)) {
                return NOT_FOUND;
            }
            state.reversed[gear] = !state.reversed[gear];
            return state.reversed[gear] ? 1 : 0;
        }

        int letGo(int gear, int turns) {
            if (!state.isGear(gear)) {
                return NO_SUCH_INDEX;
            }
            if (turns < 1 || turns > 50) {
                return WRONG_ARGUMENT;
            }
            if (!state.hasSpring(gear)) {
                return NOT_FOUND;
            }
            train.trace(state, gear);
            if (train.isBlocked(state, gear)) {
                return NOT_SUPPORTED;
            }
            int drag = train.drag(state);
            int made = Math.min(turns, (int) Numbers.quotient(state.tensions[gear], drag));
            if (made > 0) {
                state.tensions[gear] -= drag * made;
                state.taken += drag * made;
                state.releases++;
                turnTrain(state.reversed[gear] ? -made : made);
                dryWornGears();
            }
            return made;
        }

        /** Turns all gears of the traced train; turns are those of its first gear. */
        private void turnTrain(int turns) {
            for (int gear = 0; gear < state.gears; gear++) {
                long units = train.units[gear] * turns;
                state.angles[gear] = Numbers.remainder(state.angles[gear] + units, TURN);
                if (state.oiled[gear]) {
                    state.wears[gear] += Math.abs(units);
                }
            }
        }

        private void dryWornGears() {
            for (int gear = 0; gear < state.gears; gear++) {
                if (state.oiled[gear] && state.wears[gear] >= DRY_WEAR) {
                    state.oiled[gear] = false;
                }
            }
        }

        int putRatchet(int gear, boolean isSet) {
            if (!state.isGear(gear)) {
                return NO_SUCH_INDEX;
            }
            boolean hadOne = state.ratchets[gear];
            state.ratchets[gear] = isSet;
            return hadOne ? 1 : 0;
        }

        int putOil(int gear) {
            if (!state.isGear(gear)) {
                return NO_SUCH_INDEX;
            }
            if (state.oiled[gear]) {
                return WRONG_STATE;
            }
            if (state.drops == 0) {
                return NOT_SUPPORTED;
            }
            state.oiled[gear] = true;
            state.wears[gear] = 0L;
            state.drops--;
            return state.drops;
        }

        int addDrops(int drops) {
            if (drops < 1 || drops > 50) {
                return WRONG_ARGUMENT;
            }
            if (state.drops + drops > MAX_DROPS) {
                return WRONG_STATE;
            }
            state.drops += drops;
            return state.drops;
        }

        int putPlanet(int gear) {
            if (!state.isGear(gear)) {
                return NO_SUCH_INDEX;
            }
            if (state.planets >= MAX_PLANETS || state.carriesPlanet(gear)) {
                return WRONG_STATE;
            }
            int planet = state.planets;
            state.carriers[planet] = gear;
            state.planets = planet + 1;
            return planet;
        }
    }

    /** The two ways to find the next eclipse. Both answer 0 when there is none. */
    private static final class Eclipses {
        private final State state;
        private final Train train;

        Eclipses(State state, Train train) {
            this.state = state;
            this.train = train;
        }

        /** Whether these planets and this key can be asked about, or why they can't. */
        int judge(int one, int other, int key) {
            if (!state.isPlanet(one) || !state.isPlanet(other) || !state.isGear(key)) {
                return NO_SUCH_INDEX;
            }
            if (one == other) {
                return WRONG_ARGUMENT;
            }
            train.trace(state, key);
            if (!train.holds(state.carriers[one]) || !train.holds(state.carriers[other])) {
                return WRONG_STATE;
            }
            return ACCEPTED;
        }

        /** Solves turns * step = gap for the number of turns, in the ring of the angles. */
        int bySolving(int one, int other, int key) {
            train.trace(state, key);
            int gear = state.carriers[one];
            int otherGear = state.carriers[other];
            long step = Numbers.remainder(train.units[gear] - train.units[otherGear], TURN);
            long gap = Numbers.remainder(state.angles[otherGear] - state.angles[gear], TURN);
            long common = Numbers.commonDivisor(step, TURN);
            if (Numbers.remainder(gap, common) != 0L) {
                return 0;
            }
            long period = Numbers.quotient(TURN, common);
            long turns = Numbers.product(Numbers.quotient(gap, common),
                    Numbers.inverse(Numbers.quotient(step, common), period), period);
            if (turns == 0L) {
                turns = period;
            }
            return turns > MAX_ECLIPSE ? 0 : (int) turns;
        }

        int byTurning(int one, int other, int key) {
            train.trace(state, key);
            int gear = state.carriers[one];
            int otherGear = state.carriers[other];
            long angle = state.angles[gear];
            long otherAngle = state.angles[otherGear];
            for (int turns = 1; turns <= MAX_ECLIPSE; turns++) {
                angle = Numbers.remainder(angle + train.units[gear], TURN);
                otherAngle = Numbers.remainder(otherAngle + train.units[otherGear], TURN);
                if (angle == otherAngle) {
                    return turns;
                }
            }
            return 0;
        }

        boolean bothWaysAgree() {
            for (int one = 0; one < state.planets; one++) {
                int key = state.carriers[one];
                for (int other = 0; other < state.planets; other++) {
                    if (judge(one, other, key) == ACCEPTED
                            && bySolving(one, other, key) != byTurning(one, other, key)) {
                        return false;
                    }
                }
            }
            return true;
        }
    }

    /** The two ways to find the fewest pairs of gears. Both answer 0 when there are none. */
    private static final class Ratios {
        private final State state;
        private final int[] aboves = new int[MAX_PAIRS];
        private final int[] belows = new int[MAX_PAIRS];
        private final int[] uppers = new int[MAX_PAIRS];
        private final int[] lowers = new int[MAX_PAIRS];
        private int pairs = 0;

        Ratios(State state) {
            this.state = state;
        }

        int byTrying(int a, int b) {
            for (int p = 0; p < state.gears; p++) {
                for (int q = 0; q < state.gears; q++) {
                    if (p != q && state.teeth[p] * b == state.teeth[q] * a) {
                        return 1;
                    }
                }
            }
            for (int p = 0; p < state.gears; p++) {
                for (int q = 0; q < state.gears; q++) {
                    if (p != q && hasSecondPair(p, q, a, b)) {
                        return 2;
                    }
                }
            }
            return 0;
        }

        private boolean hasSecondPair(int p, int q, int a, int b) {
            int above = state.teeth[p] * b;
            int below = state.teeth[q] * a;
            for (int r = 0; r < state.gears; r++) {
                for (int s = 0; s < state.gears; s++) {
                    boolean areDifferent = r != s && r != p && r != q && s != p && s != q;
                    if (areDifferent && above * state.teeth[r] == below * state.teeth[s]) {
                        return true;
                    }
                }
            }
            return false;
        }

        int byTable(int a, int b) {
            makeTable();
            if (tableHas(a, b, NONE, NONE)) {
                return 1;
            }
            for (int pair = 0; pair < pairs; pair++) {
                int above = a * belows[pair];
                int below = b * aboves[pair];
                if (tableHas(above, below, uppers[pair], lowers[pair])) {
                    return 2;
                }
            }
            return 0;
        }

        private void makeTable() {
            pairs = 0;
            for (int upper = 0; upper < state.gears; upper++) {
                for (int lower = 0; lower < state.gears; lower++) {
                    if (upper != lower) {
                        addPair(upper, lower);
                    }
                }
            }
        }

        private void addPair(int upper, int lower) {
            if (pairs < MAX_PAIRS) {
                long common = Numbers.commonDivisor(state.teeth[upper], state.teeth[lower]);
                aboves[pairs] = (int) Numbers.quotient(state.teeth[upper], common);
                belows[pairs] = (int) Numbers.quotient(state.teeth[lower], common);
                uppers[pairs] = upper;
                lowers[pairs] = lower;
                pairs++;
            }
        }

        /** Whether a pair without these two gears has the ratio of above to below. */
        private boolean tableHas(int above, int below, int taken, int takenToo) {
            long common = Numbers.commonDivisor(above, below);
            long lowestAbove = Numbers.quotient(above, common);
            long lowestBelow = Numbers.quotient(below, common);
            for (int pair = 0; pair < pairs; pair++) {
                boolean isFree = uppers[pair] != taken && uppers[pair] != takenToo
                        && lowers[pair] != taken && lowers[pair] != takenToo;
                if (isFree && aboves[pair] == lowestAbove && belows[pair] == lowestBelow) {
                    return true;
                }
            }
            return false;
        }

        boolean bothWaysAgree() {
            for (int a = 1; a <= CHECKED_RATIOS; a++) {
                if (byTrying(a, 1) != byTable(a, 1)) {
                    return false;
                }
            }
            return true;
        }
    }

    /** Whole numbers. Division by 0 answers 0 here, so that no call can break on it. */
    private static final class Numbers {
        /** Far more steps than Euclid's way needs for two numbers of the range of long. */
        private static final int MAX_STEPS = 200;
        private static final int LOW_BITS = 20;

        static long quotient(long above, long below) {
            return below == 0L ? 0L : Math.floorDiv(above, below);
        }

        static long remainder(long number, long modulus) {
            return modulus == 0L ? 0L : Math.floorMod(number, modulus);
        }

        static long commonDivisor(long one, long other) {
            long larger = Math.abs(one);
            long smaller = Math.abs(other);
            for (int step = 0; step < MAX_STEPS && smaller != 0L; step++) {
                long rest = remainder(larger, smaller);
                larger = smaller;
                smaller = rest;
            }
            return larger;
        }

        /** The number whose product with the given one leaves 1 modulo the modulus. */
        static long inverse(long number, long modulus) {
            long larger = modulus;
            long smaller = remainder(number, modulus);
            long factorOfLarger = 0L;
            long factorOfSmaller = 1L;
            for (int step = 0; step < MAX_STEPS && smaller != 0L; step++) {
                long times = quotient(larger, smaller);
                long rest = larger - times * smaller;
                long factorOfRest = factorOfLarger - times * factorOfSmaller;
                larger = smaller;
                smaller = rest;
                factorOfLarger = factorOfSmaller;
                factorOfSmaller = factorOfRest;
            }
            return remainder(factorOfLarger, modulus);
        }

        /**
         * The product of two numbers modulo a modulus, all up to TURN. The plain product may leave
         * the range of long, so one factor is taken in two parts.
         */
        static long product(long one, long other, long modulus) {
            long high = other >> LOW_BITS;
            long low = other - (high << LOW_BITS);
            long ofHigh = remainder(one * high, modulus);
            return remainder((ofHigh << LOW_BITS) + one * low, modulus);
        }
    }

    /** The commands of a script, with their words and what stands behind them. */
    private enum Verb {
        GEAR("gear ", NUMBER),
        MESHING("mesh ", TWO_DIGITS),
        SHARING("axle ", TWO_DIGITS),
        CUT("cut ", TWO_DIGITS),
        SPRING("spring ", DIGIT_AND_NUMBER),
        WIND("wind ", DIGIT_AND_NUMBER),
        REVERSE("reverse ", DIGIT),
        RUN("run ", DIGIT_AND_NUMBER),
        RATCHET("ratchet ", DIGIT),
        FREE("free ", DIGIT),
        OIL("oil ", DIGIT),
        BUY("buy ", NUMBER),
        PLANET("planet ", DIGIT);

        final String word;
        final int shape;

        Verb(String word, int shape) {
            this.word = word;
            this.shape = shape;
        }
    }

    /** The script buffer and the commands that were read from it last. */
    private static final class Script {
        private final char[] text = new char[MAX_SCRIPT];
        int length = 0;
        private int position = 0;
        /** Each command has a character of its own, so there are never more commands than those. */
        final Verb[] verbs = new Verb[MAX_SCRIPT];
        final int[] firsts = new int[MAX_SCRIPT];
        final int[] seconds = new int[MAX_SCRIPT];
        int commands = 0;
        private int number = 0;

        void add(char character) {
            if (length < MAX_SCRIPT) {
                text[length] = character;
                length++;
            }
        }

        void empty() {
            length = 0;
        }

        /** Reads the commands; answers the error position, or NONE if the form is right. */
        int parse() {
            position = 0;
            commands = 0;
            for (int command = 0; command < MAX_SCRIPT; command++) {
                if (!readCommand(command)) {
                    return position;
                }
                commands++;
                if (position == length) {
                    return NONE;
                }
                if (!readSign(';')) {
                    return position;
                }
            }
            return position;
        }

        private boolean readCommand(int command) {
            Verb verb = readVerb();
            if (verb == null) {
                return false;
            }
            verbs[command] = verb;
            seconds[command] = 0;
            boolean isRead = readDigits(verb.shape == NUMBER ? MAX_DIGITS : 1);
            firsts[command] = number;
            if (!isRead || verb.shape == NUMBER || verb.shape == DIGIT) {
                return isRead;
            }
            isRead = verb.shape == TWO_DIGITS ? readDigits(1)
                    : readSign(' ') && readDigits(MAX_DIGITS);
            seconds[command] = number;
            return isRead;
        }

        /** Reads as many signs as some verb has there; answers null if that is no whole word. */
        private Verb readVerb() {
            Verb best = null;
            int most = 0;
            for (Verb verb : VERBS) {
                int signs = commonSigns(verb.word);
                if (signs == verb.word.length()) {
                    best = verb;
                }
                most = Math.max(most, signs);
            }
            position += most;
            return best;
        }

        /** How many signs of a word stand in the text, from the position on. */
        private int commonSigns(String word) {
            int signs = 0;
            while (signs < word.length() && position + signs < length
                    && text[position + signs] == word.charAt(signs)) {
                signs++;
            }
            return signs;
        }

        private boolean readSign(char sign) {
            if (position >= length || text[position] != sign) {
                return false;
            }
            position++;
            return true;
        }

        /** Reads as many digits as stand there, up to a limit; answers false if there is none. */
        private boolean readDigits(int limit) {
            number = 0;
            int digits = 0;
            while (digits < limit && addDigit()) {
                digits++;
            }
            return digits > 0;
        }

        private boolean addDigit() {
            if (position >= length || text[position] < '0' || text[position] > '9') {
                return false;
            }
            number = number * 10 + (text[position] - '0');
            position++;
            return true;
        }
    }

    /** The states before the latest changes. */
    private static final class History {
        private final State[] states = new State[MAX_UNDO];
        private int first = 0;
        int count = 0;

        History() {
            for (int index = 0; index < MAX_UNDO; index++) {
                states[index] = new State();
            }
        }

        void push(State state) {
            if (count == MAX_UNDO) {
                first = (first + 1) % MAX_UNDO;
                count--;
            }
            State last = states[(first + count) % MAX_UNDO];
            if (last != null) {
                last.copyFrom(state);
                count++;
            }
        }

        void popInto(State state) {
            if (count > 0) {
                count--;
                State last = states[(first + count) % MAX_UNDO];
                if (last != null) {
                    state.copyFrom(last);
                }
            }
        }

        void empty() {
            count = 0;
        }
    }
}
