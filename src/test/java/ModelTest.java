import java.util.ArrayList;
import java.util.List;
import java.util.Map;
import java.util.Objects;
import java.util.TreeMap;
import java.util.function.Supplier;

/** Long mixed runs, in which every answer is compared with that of Model. The runs are fixed. */
public final class ModelTest {
    private static final int RUNS = 400;
    private static final int CALLS = 512;
    private static final int[] TEETH = {6, 8, 10, 12, 15, 20, 24, 30, 40, 60};
    private static final String[] WORDS = {"gear ", "mesh ", "axle ", "cut ", "spring ", "wind ",
        "reverse ", "run ", "ratchet ", "free ", "oil ", "buy ", "planet "};
    private static final Map<String, Integer> seen = new TreeMap<>();

    private long seed;
    private final PlanetWorkshop shop = new PlanetWorkshop();
    private final Model model = new Model();
    private final List<String> calls = new ArrayList<>();
    private boolean isRight = true;

    private ModelTest(int run) {
        seed = run * 7919L + 17L;
    }

    public static void main(String[] args) {
        for (int run = 0; run < RUNS; run++) {
            ModelTest test = new ModelTest(run);
            test.run(run);
            Check.yes("run " + run, test.isRight);
        }
        if (args.length > 0) {
            seen.forEach((answer, times) -> System.out.println(answer + ": " + times));
        }
        Check.end("ModelTest");
    }

    private int below(int limit) {
        seed = seed * 6364136223846793005L + 1442695040888963407L;
        return (int) ((seed >>> 33) % limit);
    }

    private boolean chance(int percent) {
        return below(100) < percent;
    }

    private int gear() {
        int gears = Math.max(1, model.gearCount());
        return chance(96) ? below(gears) : below(14) - 2;
    }

    private int planet() {
        int planets = Math.max(1, model.planetCount());
        return chance(96) ? below(planets) : below(10) - 2;
    }

    private int between(int low, int high) {
        return chance(92) ? low + below(high - low + 1) : low - 2 + below(high - low + 5);
    }

    private int teeth() {
        return chance(95) ? TEETH[below(TEETH.length)] : below(70);
    }

    private static Object answer(Supplier<Object> call) {
        try {
            return call.get();
        } catch (RuntimeException e) {
            return "throws " + e.getClass().getSimpleName();
        }
    }

    private void same(String call, Supplier<Object> tried, Supplier<Object> due) {
        if (calls.size() >= CALLS) {
            return;
        }
        Object got = answer(tried);
        Object wanted = answer(due);
        calls.add(call + " = " + got);
        String name = call.substring(0, call.indexOf('('));
        String kind = wanted instanceof String ? " " + wanted : " answers";
        seen.merge(name + kind, 1, Integer::sum);
        if (isRight && !Objects.equals(got, wanted)) {
            isRight = false;
            System.out.println(String.join("\n", calls));
            System.out.println("... but " + wanted + " is due");
        }
    }

    private void run(int run) {
        int gears = run % 3 == 0 ? 0 : 2 + below(9);
        for (int gear = 0; gear < gears; gear++) {
            int teeth = teeth();
            same("addGear(" + teeth + ")", () -> shop.addGear(teeth), () -> model.addGear(teeth));
        }
        while (isRight && calls.size() < CALLS) {
            if (chance(55)) {
                change(below(13));
            } else if (chance(90)) {
                query(below(34));
            } else {
                keep();
            }
        }
    }

    private void change(int kind) {
        int g = gear();
        int h = gear();
        switch (kind) {
            case 0 -> {
                int teeth = teeth();
                same("addGear(" + teeth + ")", () -> shop.addGear(teeth), () -> model.addGear(teeth));
            }
            case 1, 2 -> {
                same("mesh(" + g + "," + h + ")", () -> shop.mesh(g, h), () -> model.join(g, h, 'm'));
            }
            case 3 -> same("shareAxle(" + g + "," + h + ")", () -> shop.shareAxle(g, h),
                    () -> model.join(g, h, 'a'));
            case 4 -> {
                if (chance(40)) {
                    same("separate(" + g + "," + h + ")", () -> shop.separate(g, h),
                            () -> model.separate(g, h));
                }
            }
            case 5 -> {
                int size = between(10, 200);
                same("setSpring(" + g + "," + size + ")", () -> shop.setSpring(g, size),
                        () -> model.setSpring(g, size));
            }
            case 6 -> wind();
            case 7 -> {
                int s = sprung();
                same("reverse(" + s + ")", () -> shop.reverse(s), () -> model.reverse(s));
            }
            case 8 -> release();
            case 9 -> {
                boolean isSet = chance(30);
                same("setRatchet(" + g + "," + isSet + ")", () -> shop.setRatchet(g, isSet),
                        () -> model.setRatchet(g, isSet));
            }
            case 10 -> same("oil(" + g + ")", () -> shop.oil(g), () -> model.oil(g));
            case 11 -> {
                int drops = between(1, 50);
                same("buyOil(" + drops + ")", () -> shop.buyOil(drops), () -> model.buyOil(drops));
            }
            default -> {
                if (chance(50)) {
                    same("addPlanet(" + g + ")", () -> shop.addPlanet(g), () -> model.addPlanet(g));
                } else {
                    script();
                }
            }
        }
    }

    /** Most often a gear with a spring, so that winding and releasing have something to do. */
    private int sprung() {
        int g = gear();
        Object holder = answer(() -> model.springOf(g));
        return holder instanceof Integer && chance(90) ? (Integer) holder : g;
    }

    private void wind() {
        for (int time = 0; time < 3; time++) {
            int s = sprung();
            int amount = chance(70) ? between(1, 60) : between(1, 200);
            same("wind(" + s + "," + amount + ")", () -> shop.wind(s, amount),
                    () -> model.wind(s, amount));
        }
    }

    private void release() {
        for (int time = 0; time < 2; time++) {
            int s = sprung();
            int turns = chance(50) ? between(1, 5) : between(1, 50);
            same("release(" + s + "," + turns + ")", () -> shop.release(s, turns),
                    () -> model.release(s, turns));
        }
    }

    private void script() {
        StringBuilder text = new StringBuilder();
        int commands = 1 + below(4);
        for (int command = 0; command < commands; command++) {
            text.append(command == 0 ? "" : ";").append(command());
        }
        if (text.length() > 0 && chance(35)) {
            int place = below(text.length() + 1);
            switch (below(4)) {
                case 0 -> text.setLength(place);
                case 1 -> text.insert(place, "0 ;rx9m".charAt(below(7)));
                case 2 -> text.setCharAt(Math.min(place, text.length() - 1), (char) (32 + below(95)));
                default -> text.deleteCharAt(Math.min(place, text.length() - 1));
            }
        }
        for (int i = 0; i < text.length(); i++) {
            char sign = text.charAt(i);
            same("type(" + sign + ")", () -> shop.type(sign), () -> model.type(sign));
        }
        same("runScript()", shop::runScript, model::runScript);
        same("errorPosition()", shop::errorPosition, model::errorPosition);
        same("failedCommand()", shop::failedCommand, model::failedCommand);
        same("gearCount()", shop::gearCount, model::gearCount);
        same("jointCount()", shop::jointCount, model::jointCount);
        same("tensionTotal()", shop::tensionTotal, model::tensionTotal);
    }

    private String command() {
        String word = WORDS[below(WORDS.length)];
        int digit = Math.min(9, Math.max(0, gear()));
        switch (word) {
            case "gear ":
                return word + teeth();
            case "buy ":
                return word + Math.max(0, between(1, 20));
            case "mesh ":
            case "axle ":
            case "cut ":
                return word + digit + Math.min(9, Math.max(0, gear()));
            case "spring ":
                return word + digit + " " + between(10, 200);
            case "wind ":
            case "run ":
                return word + Math.min(9, Math.max(0, sprung())) + " " + Math.max(0, between(1, 30));
            case "reverse ":
                return word + Math.min(9, Math.max(0, sprung()));
            default:
                return word + digit;
        }
    }

    private void keep() {
        switch (below(6)) {
            case 0 -> same("save()", shop::save, model::save);
            case 1 -> same("restore()", shop::restore, model::restore);
            default -> {
                int times = 1 + below(3) * below(5);
                for (int time = 0; time < times; time++) {
                    same("undo()", shop::undo, model::undo);
                }
            }
        }
    }

    private void query(int kind) {
        int g = gear();
        int h = gear();
        String one = "(" + g + ")";
        String two = "(" + g + "," + h + ")";
        switch (kind) {
            case 0 -> same("teeth" + one, () -> shop.teeth(g), () -> model.teeth(g));
            case 1 -> same("joint" + two, () -> shop.joint(g, h), () -> model.joint(g, h));
            case 2 -> same("trainSize" + one, () -> shop.trainSize(g), () -> model.trainSize(g));
            case 3 -> same("areInTrain" + two, () -> shop.areInTrain(g, h),
                    () -> model.areInTrain(g, h));
            case 4 -> same("unitsPerTurn" + two, () -> shop.unitsPerTurn(g, h),
                    () -> model.unitsPerTurn(g, h));
            case 5 -> same("unitsPerTurnByLowest" + two, () -> shop.unitsPerTurnByLowest(g, h),
                    () -> model.unitsPerTurn(g, h));
            case 6 -> same("angle" + one, () -> shop.angle(g), () -> model.angle(g));
            case 7 -> same("anglePart" + one, () -> shop.anglePart(g), () -> model.anglePart(g));
            case 8 -> same("tension" + one, () -> shop.tension(g), () -> model.tension(g));
            case 9 -> same("springSize" + one, () -> shop.springSize(g), () -> model.springSize(g));
            case 10 -> same("springOf" + one, () -> shop.springOf(g), () -> model.springOf(g));
            case 11 -> same("friction" + one, () -> shop.friction(g), () -> model.friction(g));
            case 12 -> same("turnsLeft" + one, () -> shop.turnsLeft(g), () -> model.turnsLeft(g));
            case 13 -> same("canRelease" + one, () -> shop.canRelease(g), () -> model.canRelease(g));
            case 14 -> same("hasRatchet" + one, () -> shop.hasRatchet(g), () -> model.hasRatchet(g));
            case 15 -> same("isDry" + one, () -> shop.isDry(g), () -> model.isDry(g));
            case 16 -> same("wear" + one, () -> shop.wear(g), () -> model.wear(g));
            case 17 -> same("isConsistent()", shop::isConsistent, () -> true);
            case 18, 19, 20, 21 -> eclipses(g);
            case 22 -> ratios();
            case 23 -> texts(g);
            default -> totals(kind, planet(), planet());
        }
    }

    private void eclipses(int key) {
        int one = planet();
        int other = planet();
        String three = "(" + one + "," + other + "," + key + ")";
        same("areInLine(" + one + "," + other + ")", () -> shop.areInLine(one, other),
                () -> model.areInLine(one, other));
        same("nextEclipse" + three, () -> shop.nextEclipse(one, other, key),
                () -> model.nextEclipse(one, other, key));
        same("nextEclipseByTurns" + three, () -> shop.nextEclipseByTurns(one, other, key),
                () -> model.nextEclipse(one, other, key));
    }

    private void ratios() {
        int a = between(1, chance(50) ? 60 : 9);
        int b = between(1, chance(50) ? 60 : 9);
        String two = "(" + a + "," + b + ")";
        same("fewestPairs" + two, () -> shop.fewestPairs(a, b), () -> model.fewestPairs(a, b));
        same("fewestPairsByTable" + two, () -> shop.fewestPairsByTable(a, b),
                () -> model.fewestPairs(a, b));
    }

    private void texts(int g) {
        if (chance(50)) {
            same("renderGear(" + g + ")", () -> shop.renderGear(g), () -> model.renderGear(g));
        } else {
            same("renderTrain(" + g + ")", () -> shop.renderTrain(g), () -> model.renderTrain(g));
        }
        for (int index = -1; index < 22; index++) {
            final int place = index;
            same("outputAt(" + place + ")", () -> shop.outputAt(place), () -> model.outputAt(place));
        }
    }

    private void totals(int kind, int p, int rank) {
        switch (kind) {
            case 24 -> same("drops()", shop::drops, model::drops);
            case 25 -> same("planetCount()", shop::planetCount, model::planetCount);
            case 26 -> same("gearOf(" + p + ")", () -> shop.gearOf(p), () -> model.gearOf(p));
            case 27 -> same("planetByAngle(" + rank + ")", () -> shop.planetByAngle(rank),
                    () -> model.planetByAngle(rank));
            case 28 -> same("woundTotal()", shop::woundTotal, model::woundTotal);
            case 29 -> same("tensionByAccounts()", shop::tensionByAccounts, model::tensionTotal);
            case 30 -> same("releaseTotal()", shop::releaseTotal, model::releaseTotal);
            case 31 -> same("meanTeeth()", shop::meanTeeth, model::meanTeeth);
            case 32 -> same("dryShare()", shop::dryShare, model::dryShare);
            default -> same("tensionTotal()", shop::tensionTotal, model::tensionTotal);
        }
    }
}
