import java.math.BigInteger;
import java.util.ArrayDeque;
import java.util.ArrayList;
import java.util.Arrays;
import java.util.Comparator;
import java.util.Deque;
import java.util.List;
import java.util.NoSuchElementException;
import java.util.regex.Matcher;
import java.util.regex.Pattern;

/**
 * The document once more, in the widest Java: fractions instead of units, chains by recursion,
 * eclipses and ratios by plain search, scripts by a regular expression. It shares no code and, where
 * that is possible, no way of thinking with the class that it is compared with.
 */
final class Model {
    private static final BigInteger TURN = BigInteger.valueOf(120).pow(5);
    private static final List<Integer> TEETH = List.of(6, 8, 10, 12, 15, 20, 24, 30, 40, 60);
    private static final String COMMAND = "(?:(?:gear|buy) [0-9]{1,3}|(?:mesh|axle|cut) [0-9][0-9]"
            + "|(?:spring|wind|run) [0-9] [0-9]{1,3}|(?:reverse|ratchet|free|oil|planet) [0-9])";
    private static final Pattern SCRIPT = Pattern.compile(COMMAND + "(?:;" + COMMAND + ")*");

    private static final class Gear {
        int teeth;
        BigInteger angle = BigInteger.ZERO;
        BigInteger wear;
        boolean ratchet;
        int size;
        int tension;
        boolean reversed;

        Gear copy() {
            Gear copy = new Gear();
            copy.teeth = teeth;
            copy.angle = angle;
            copy.wear = wear;
            copy.ratchet = ratchet;
            copy.size = size;
            copy.tension = tension;
            copy.reversed = reversed;
            return copy;
        }
    }

    private record Joint(int low, int high, char kind) {
    }

    private record Fraction(BigInteger above, BigInteger below) {
        Fraction times(long a, long b) {
            return new Fraction(above.multiply(BigInteger.valueOf(a)),
                    below.multiply(BigInteger.valueOf(b)));
        }

        boolean isSame(Fraction other) {
            return above.multiply(other.below).equals(other.above.multiply(below));
        }
    }

    private static final class State {
        List<Gear> gears = new ArrayList<>();
        List<Joint> joints = new ArrayList<>();
        List<Integer> planets = new ArrayList<>();
        int drops = 12;
        int wound = 0;
        int releases = 0;

        State copy() {
            State copy = new State();
            gears.forEach(gear -> copy.gears.add(gear.copy()));
            copy.joints.addAll(joints);
            copy.planets.addAll(planets);
            copy.drops = drops;
            copy.wound = wound;
            copy.releases = releases;
            return copy;
        }
    }

    private State now = new State();
    private State snapshot = null;
    private final Deque<State> past = new ArrayDeque<>();
    private String buffer = "";
    private String output = "";
    private Integer errorAt = null;
    private Integer failedAt = null;

    private void changed(State before) {
        past.push(before);
        if (past.size() > 8) {
            past.removeLast();
        }
    }

    private Gear gear(int index) {
        if (index < 0 || index >= now.gears.size()) {
            throw new IndexOutOfBoundsException();
        }
        return now.gears.get(index);
    }

    private Gear sprung(int index) {
        if (gear(index).size == 0) {
            throw new NoSuchElementException();
        }
        return gear(index);
    }

    private Joint between(int one, int other) {
        for (Joint joint : now.joints) {
            if (joint.low == Math.min(one, other) && joint.high == Math.max(one, other)) {
                return joint;
            }
        }
        return null;
    }

    private Fraction[] turns(int driver) {
        Fraction[] turns = new Fraction[now.gears.size()];
        spread(turns, driver, new Fraction(BigInteger.ONE, BigInteger.ONE));
        return turns;
    }

    private void spread(Fraction[] turns, int gear, Fraction made) {
        turns[gear] = made;
        for (Joint joint : now.joints) {
            int other = joint.low == gear ? joint.high : joint.high == gear ? joint.low : -1;
            if (other >= 0 && turns[other] == null) {
                spread(turns, other, through(made, gear, other, joint.kind));
            }
        }
    }

    private Fraction through(Fraction made, int from, int to, char kind) {
        return kind == 'a' ? made
                : made.times(-now.gears.get(from).teeth, now.gears.get(to).teeth);
    }

    private List<Integer> train(int gear) {
        gear(gear);
        Fraction[] turns = turns(gear);
        List<Integer> train = new ArrayList<>();
        for (int i = 0; i < turns.length; i++) {
            if (turns[i] != null) {
                train.add(i);
            }
        }
        return train;
    }

    private boolean hasSpring(List<Integer> train) {
        return train.stream().anyMatch(gear -> now.gears.get(gear).size > 0);
    }

    private BigInteger units(int driver, int gear) {
        Fraction turns = turns(driver)[gear];
        BigInteger[] parts = turns.above.multiply(TURN).divideAndRemainder(turns.below);
        if (parts[1].signum() != 0) {
            throw new AssertionError("not a whole number of units");
        }
        return parts[0];
    }

    int addGear(int teeth) {
        if (!TEETH.contains(teeth)) {
            throw new IllegalArgumentException();
        }
        if (now.gears.size() == 10) {
            throw new IllegalStateException();
        }
        changed(now.copy());
        Gear gear = new Gear();
        gear.teeth = teeth;
        now.gears.add(gear);
        return now.gears.size() - 1;
    }

    int join(int one, int other, char kind) {
        gear(one);
        gear(other);
        if (one == other) {
            throw new IllegalArgumentException();
        }
        List<Integer> train = train(one);
        boolean areTwoTrains = !train.contains(other);
        if (between(one, other) != null || now.joints.size() == 15
                || areTwoTrains && hasSpring(train) && hasSpring(train(other))) {
            throw new IllegalStateException();
        }
        Fraction whole = new Fraction(BigInteger.ONE, BigInteger.ONE);
        if (!areTwoTrains && !turns(one)[other].isSame(through(whole, one, other, kind))) {
            throw new UnsupportedOperationException();
        }
        changed(now.copy());
        now.joints.add(new Joint(Math.min(one, other), Math.max(one, other), kind));
        return train(one).size();
    }

    int separate(int one, int other) {
        gear(one);
        gear(other);
        if (between(one, other) == null) {
            throw new NoSuchElementException();
        }
        changed(now.copy());
        now.joints.remove(between(one, other));
        return now.joints.size();
    }

    int setSpring(int gear, int size) {
        gear(gear);
        if (size < 10 || size > 200) {
            throw new IllegalArgumentException();
        }
        if (hasSpring(train(gear))) {
            throw new IllegalStateException();
        }
        changed(now.copy());
        gear(gear).size = size;
        return (int) now.gears.stream().filter(one -> one.size > 0).count();
    }

    int wind(int gear, int amount) {
        gear(gear);
        if (amount < 1 || amount > 200) {
            throw new IllegalArgumentException();
        }
        if (sprung(gear).tension + amount > sprung(gear).size) {
            throw new IllegalStateException();
        }
        changed(now.copy());
        sprung(gear).tension += amount;
        now.wound += amount;
        return sprung(gear).tension;
    }

    boolean reverse(int gear) {
        sprung(gear);
        changed(now.copy());
        return sprung(gear).reversed ^= true;
    }

    private boolean isBlocked(int gear) {
        Fraction[] turns = turns(gear);
        int sign = gear(gear).reversed ? -1 : 1;
        return train(gear).stream().anyMatch(one -> gear(one).ratchet
                && turns[one].above.signum() * turns[one].below.signum() * sign < 0);
    }

    int release(int gear, int turns) {
        gear(gear);
        if (turns < 1 || turns > 50) {
            throw new IllegalArgumentException();
        }
        sprung(gear);
        if (isBlocked(gear)) {
            throw new UnsupportedOperationException();
        }
        changed(now.copy());
        int friction = friction(gear);
        int made = Math.min(turns, sprung(gear).tension / friction);
        sprung(gear).tension -= made * friction;
        now.releases += made > 0 ? 1 : 0;
        for (int one : train(gear)) {
            BigInteger units = units(gear, one).multiply(BigInteger.valueOf(made));
            Gear turned = gear(one);
            turned.angle = (sprung(gear).reversed ? turned.angle.subtract(units)
                    : turned.angle.add(units)).mod(TURN);
            turned.wear = turned.wear == null ? null : turned.wear.add(units.abs());
        }
        BigInteger limit = TURN.multiply(BigInteger.valueOf(30));
        for (Gear one : now.gears) {
            one.wear = one.wear == null || one.wear.compareTo(limit) >= 0 ? null : one.wear;
        }
        return made;
    }

    boolean setRatchet(int gear, boolean isSet) {
        gear(gear);
        changed(now.copy());
        boolean had = gear(gear).ratchet;
        gear(gear).ratchet = isSet;
        return had;
    }

    int oil(int gear) {
        if (gear(gear).wear != null) {
            throw new IllegalStateException();
        }
        if (now.drops == 0) {
            throw new UnsupportedOperationException();
        }
        changed(now.copy());
        gear(gear).wear = BigInteger.ZERO;
        return --now.drops;
    }

    int buyOil(int drops) {
        if (drops < 1 || drops > 50) {
            throw new IllegalArgumentException();
        }
        if (now.drops + drops > 99) {
            throw new IllegalStateException();
        }
        changed(now.copy());
        return now.drops += drops;
    }

    int addPlanet(int gear) {
        gear(gear);
        if (now.planets.size() == 6 || now.planets.contains(gear)) {
            throw new IllegalStateException();
        }
        changed(now.copy());
        now.planets.add(gear);
        return now.planets.size() - 1;
    }

    int gearCount() {
        return now.gears.size();
    }

    int teeth(int gear) {
        return gear(gear).teeth;
    }

    char joint(int one, int other) {
        gear(one);
        gear(other);
        if (between(one, other) == null) {
            throw new NoSuchElementException();
        }
        return between(one, other).kind;
    }

    int jointCount() {
        return now.joints.size();
    }

    int trainSize(int gear) {
        return train(gear).size();
    }

    boolean areInTrain(int one, int other) {
        gear(other);
        return train(one).contains(other);
    }

    long unitsPerTurn(int driver, int gear) {
        if (!areInTrain(driver, gear)) {
            throw new NoSuchElementException();
        }
        return units(driver, gear).longValueExact();
    }

    long angle(int gear) {
        return gear(gear).angle.longValueExact();
    }

    double anglePart(int gear) {
        return (double) angle(gear) / 24883200000.0;
    }

    int tension(int gear) {
        return sprung(gear).tension;
    }

    int springSize(int gear) {
        return sprung(gear).size;
    }

    int springOf(int gear) {
        return train(gear).stream().filter(one -> gear(one).size > 0).findFirst().orElseThrow();
    }

    int friction(int gear) {
        return trainSize(gear) + (int) train(gear).stream().filter(this::isDry).count();
    }

    int turnsLeft(int gear) {
        return sprung(gear).tension / friction(gear);
    }

    boolean canRelease(int gear) {
        return gear(gear).size > 0 && !isBlocked(gear);
    }

    boolean hasRatchet(int gear) {
        return gear(gear).ratchet;
    }

    boolean isDry(int gear) {
        return gear(gear).wear == null;
    }

    int wear(int gear) {
        if (isDry(gear)) {
            throw new NoSuchElementException();
        }
        return gear(gear).wear.divide(TURN).intValueExact();
    }

    int drops() {
        return now.drops;
    }

    int planetCount() {
        return now.planets.size();
    }

    int gearOf(int planet) {
        if (planet < 0 || planet >= now.planets.size()) {
            throw new IndexOutOfBoundsException();
        }
        return now.planets.get(planet);
    }

    boolean areInLine(int one, int other) {
        gearOf(one);
        gearOf(other);
        if (one == other) {
            throw new IllegalArgumentException();
        }
        return angle(gearOf(one)) == angle(gearOf(other));
    }

    int nextEclipse(int one, int other, int key) {
        gear(key);
        areInLine(one, other);
        if (!areInTrain(key, gearOf(one)) || !areInTrain(key, gearOf(other))) {
            throw new IllegalStateException();
        }
        BigInteger gap = gear(gearOf(one)).angle.subtract(gear(gearOf(other)).angle);
        BigInteger step = units(key, gearOf(one)).subtract(units(key, gearOf(other)));
        for (int turns = 1; turns <= 999; turns++) {
            gap = gap.add(step);
            if (gap.mod(TURN).signum() == 0) {
                return turns;
            }
        }
        throw new NoSuchElementException();
    }

    int planetByAngle(int rank) {
        if (rank < 0 || rank >= now.planets.size()) {
            throw new NoSuchElementException();
        }
        List<Integer> order = new ArrayList<>();
        for (int planet = 0; planet < now.planets.size(); planet++) {
            order.add(planet);
        }
        order.sort(Comparator.comparing(planet -> angle(gearOf(planet))));
        return order.get(rank);
    }

    int fewestPairs(int a, int b) {
        if (a < 1 || a > 60 || b < 1 || b > 60) {
            throw new IllegalArgumentException();
        }
        int[] teeth = now.gears.stream().mapToInt(gear -> gear.teeth).toArray();
        boolean isTwo = false;
        for (int p = 0; p < teeth.length; p++) {
            for (int q = 0; q < teeth.length; q++) {
                if (p != q && teeth[p] * b == teeth[q] * a) {
                    return 1;
                }
                for (int r = 0; r < teeth.length && p != q; r++) {
                    for (int s = 0; s < teeth.length; s++) {
                        isTwo |= Arrays.stream(new int[] {p, q, r, s}).distinct().count() == 4
                                && teeth[p] * teeth[r] * b == teeth[q] * teeth[s] * a;
                    }
                }
            }
        }
        if (!isTwo) {
            throw new NoSuchElementException();
        }
        return 2;
    }

    int woundTotal() {
        return now.wound;
    }

    int tensionTotal() {
        return now.gears.stream().mapToInt(gear -> gear.tension).sum();
    }

    int releaseTotal() {
        return now.releases;
    }

    double meanTeeth() {
        if (now.gears.isEmpty()) {
            throw new ArithmeticException();
        }
        return (double) now.gears.stream().mapToInt(gear -> gear.teeth).sum() / now.gears.size();
    }

    float dryShare() {
        if (now.gears.isEmpty()) {
            throw new ArithmeticException();
        }
        return (float) now.gears.stream().filter(gear -> gear.wear == null).count()
                / now.gears.size();
    }

    int renderGear(int index) {
        Gear gear = gear(index);
        output = index + ":" + gear.teeth + (gear.wear == null ? "d" : "") + (gear.ratchet ? "r" : "")
                + (gear.size == 0 ? "" : "s" + gear.tension + "/" + gear.size
                + (gear.reversed ? "-" : ""));
        return output.length();
    }

    int renderTrain(int gear) {
        List<String> parts = new ArrayList<>();
        for (int one : train(gear)) {
            parts.add(one + (now.planets.contains(one) ? "*" : ""));
        }
        output = String.join(",", parts);
        return output.length();
    }

    char outputAt(int index) {
        if (index < 0 || index >= output.length()) {
            throw new IndexOutOfBoundsException();
        }
        return output.charAt(index);
    }

    int type(char character) {
        if (character < 32 || character > 126) {
            throw new IllegalArgumentException();
        }
        if (buffer.length() == 60) {
            throw new IllegalStateException();
        }
        buffer += character;
        return buffer.length();
    }

    int runScript() {
        String text = buffer;
        buffer = "";
        if (!SCRIPT.matcher(text).matches()) {
            errorAt = errorIn(text);
            throw new IllegalArgumentException();
        }
        State before = now.copy();
        List<State> kept = new ArrayList<>(past);
        String[] commands = text.split(";");
        int command = 0;
        try {
            for (; command < commands.length; command++) {
                execute(commands[command]);
            }
        } catch (RuntimeException e) {
            now = before;
            failedAt = command;
            past.clear();
            past.addAll(kept);
            throw new IllegalStateException();
        }
        past.clear();
        past.addAll(kept);
        changed(before);
        return commands.length;
    }

    private static int errorIn(String text) {
        for (int length = 1; length <= text.length(); length++) {
            Matcher matcher = SCRIPT.matcher(text.substring(0, length));
            if (!matcher.matches() && !matcher.hitEnd()) {
                return length - 1;
            }
        }
        return text.length();
    }

    private void execute(String command) {
        String[] words = command.split(" ");
        int first = Integer.parseInt(words[1]);
        int second = words.length > 2 ? Integer.parseInt(words[2]) : 0;
        switch (words[0]) {
            case "gear" -> addGear(first);
            case "mesh" -> join(first / 10, first % 10, 'm');
            case "axle" -> join(first / 10, first % 10, 'a');
            case "cut" -> separate(first / 10, first % 10);
            case "spring" -> setSpring(first, second);
            case "wind" -> wind(first, second);
            case "reverse" -> reverse(first);
            case "run" -> release(first, second);
            case "ratchet" -> setRatchet(first, true);
            case "free" -> setRatchet(first, false);
            case "oil" -> oil(first);
            case "buy" -> buyOil(first);
            case "planet" -> addPlanet(first);
            default -> throw new AssertionError(command);
        }
    }

    int errorPosition() {
        if (errorAt == null) {
            throw new NoSuchElementException();
        }
        return errorAt;
    }

    int failedCommand() {
        if (failedAt == null) {
            throw new NoSuchElementException();
        }
        return failedAt;
    }

    int undo() {
        if (past.isEmpty()) {
            throw new NoSuchElementException();
        }
        now = past.pop();
        return past.size();
    }

    int save() {
        snapshot = now.copy();
        return now.gears.size();
    }

    int restore() {
        if (snapshot == null) {
            throw new IllegalStateException();
        }
        now = snapshot.copy();
        past.clear();
        return now.gears.size();
    }
}
