/** Promises 13, 34 to 39 and 48: planets, eclipses, the ranking and the check of the state. */
public final class PlanetsTest {
    public static void main(String[] args) {
        addPlanet();
        inLine();
        eclipseRefusals();
        eclipses();
        latestEclipse();
        longestPeriod();
        manySteps();
        ranking();
        consistency();
        Check.end("PlanetsTest");
    }

    private static void addPlanet() {
        PlanetWorkshop shop = Tools.withGears(20, 60, 12, 15, 6, 8, 10);
        int[] wrong = {-1, 7, Integer.MIN_VALUE, Integer.MAX_VALUE};
        for (int gear : wrong) {
            Check.refused("addPlanet(" + gear + ")", Tools.INDEX, () -> shop.addPlanet(gear));
        }
        Check.refused("gearOf(0)", Tools.INDEX, () -> shop.gearOf(0));
        for (int planet = 0; planet < 6; planet++) {
            final int gear = 6 - planet;
            Check.same("addPlanet", shop.addPlanet(gear), planet);
            Check.same("planetCount", shop.planetCount(), planet + 1);
            Check.same("gearOf", shop.gearOf(planet), gear);
            Check.refused("a second one on it", Tools.STATE, () -> shop.addPlanet(gear));
        }
        Check.refused("a seventh planet", Tools.STATE, () -> shop.addPlanet(0));
        Check.refused("a seventh planet, wrong gear", Tools.INDEX, () -> shop.addPlanet(7));
        Check.same("planetCount", shop.planetCount(), 6);
        int[] wrongPlanets = {-1, 6, Integer.MIN_VALUE, Integer.MAX_VALUE};
        for (int planet : wrongPlanets) {
            Check.refused("gearOf(" + planet + ")", Tools.INDEX, () -> shop.gearOf(planet));
        }
        shop.undo();
        Check.same("planetCount after undo", shop.planetCount(), 5);
        Check.refused("gearOf(5) after undo", Tools.INDEX, () -> shop.gearOf(5));
    }

    /** Gears 0 (20), 1 (60), 2 (30); planets on 1, 0 and 3, which is a train of its own. */
    private static PlanetWorkshop threeMeshed() {
        PlanetWorkshop shop = Tools.withGears(20, 60, 30, 40);
        shop.mesh(0, 1);
        shop.mesh(0, 2);
        shop.setSpring(0, 200);
        shop.wind(0, 200);
        shop.addPlanet(1);
        shop.addPlanet(0);
        shop.addPlanet(3);
        return shop;
    }

    private static void inLine() {
        PlanetWorkshop shop = threeMeshed();
        int[][] wrong = {{-1, 0}, {0, -1}, {3, 0}, {0, 3}, {3, 3}, {-1, -1}};
        for (int[] pair : wrong) {
            Check.refused("areInLine", Tools.INDEX, () -> shop.areInLine(pair[0], pair[1]));
        }
        Check.refused("areInLine(2, 2)", Tools.ARGUMENT, () -> shop.areInLine(2, 2));
        Check.yes("areInLine(0, 1)", shop.areInLine(0, 1));
        shop.release(0, 1);
        Check.no("areInLine(0, 1)", shop.areInLine(0, 1));
        Check.no("areInLine(0, 2)", shop.areInLine(0, 2));
        Check.yes("areInLine(1, 2) of two trains", shop.areInLine(1, 2));
        shop.release(0, 2);
        Check.yes("areInLine(0, 1) after 3 turns", shop.areInLine(0, 1));
    }

    private static void eclipseRefusals() {
        PlanetWorkshop shop = threeMeshed();
        int[][] wrong = {{-1, 0, 0}, {3, 0, 0}, {0, -1, 0}, {0, 3, 0}, {0, 1, -1}, {0, 1, 4},
            {3, 3, 0}, {0, 0, 4}, {0, 2, 4}};
        for (int[] one : wrong) {
            Check.refused("nextEclipse", Tools.INDEX,
                    () -> shop.nextEclipse(one[0], one[1], one[2]));
            Check.refused("nextEclipseByTurns", Tools.INDEX,
                    () -> shop.nextEclipseByTurns(one[0], one[1], one[2]));
        }
        Check.refused("same planets", Tools.ARGUMENT, () -> shop.nextEclipse(1, 1, 3));
        Check.refused("same planets", Tools.ARGUMENT, () -> shop.nextEclipseByTurns(1, 1, 3));
        int[][] apart = {{0, 2, 0}, {2, 0, 0}, {0, 1, 3}, {0, 2, 3}};
        for (int[] one : apart) {
            Check.refused("not one train", Tools.STATE,
                    () -> shop.nextEclipse(one[0], one[1], one[2]));
            Check.refused("not one train", Tools.STATE,
                    () -> shop.nextEclipseByTurns(one[0], one[1], one[2]));
        }
    }

    private static void due(PlanetWorkshop shop, int one, int other, int key, int turns) {
        String call = "(" + one + ", " + other + ", " + key + ")";
        if (turns == 0) {
            Check.refused("nextEclipse" + call, Tools.MISSING,
                    () -> shop.nextEclipse(one, other, key));
            Check.refused("nextEclipseByTurns" + call, Tools.MISSING,
                    () -> shop.nextEclipseByTurns(one, other, key));
        } else {
            Check.same("nextEclipse" + call, shop.nextEclipse(one, other, key), turns);
            Check.same("nextEclipseByTurns" + call, shop.nextEclipseByTurns(one, other, key), turns);
        }
    }

    private static void eclipses() {
        PlanetWorkshop shop = threeMeshed();
        due(shop, 0, 1, 0, 3);
        due(shop, 1, 0, 0, 3);
        due(shop, 0, 1, 1, 1);
        due(shop, 0, 1, 2, 1);
        shop.setRatchet(1, true);
        shop.reverse(0);
        shop.release(0, 1);
        due(shop, 0, 1, 0, 1);
        due(shop, 0, 1, 2, 0);
        due(shop, 0, 1, 1, 0);
        shop.release(0, 1);
        due(shop, 0, 1, 0, 2);
        Check.yes("isConsistent", shop.isConsistent());
        PlanetWorkshop axle = Tools.withGears(20, 60, 12);
        axle.shareAxle(0, 1);
        axle.addPlanet(0);
        axle.addPlanet(1);
        due(axle, 0, 1, 1, 1);
        axle.setSpring(0, 20);
        axle.wind(0, 20);
        axle.separate(0, 1);
        axle.mesh(0, 1);
        axle.release(0, 1);
        axle.separate(0, 1);
        axle.shareAxle(0, 1);
        due(axle, 0, 1, 0, 0);
        Check.yes("isConsistent when nothing is found", axle.isConsistent());
    }

    /** Trains that need many turns, on both sides of the limit of 999. */
    private static void latestEclipse() {
        // Gear 3 turns 1 / 1000 as fast as gear 0, so the difference needs 1000 / 999 turns.
        PlanetWorkshop shop = Tools.withGears(6, 60, 6, 60, 6, 60, 20, 20, 20);
        shop.mesh(0, 1);
        shop.shareAxle(1, 2);
        shop.mesh(2, 3);
        shop.shareAxle(3, 4);
        shop.mesh(4, 5);
        shop.addPlanet(0);
        shop.addPlanet(5);
        due(shop, 0, 1, 0, 0);
        due(shop, 0, 1, 1, 100);
        shop.setSpring(0, 200);
        shop.wind(0, 200);
        shop.release(0, 1);
        due(shop, 0, 1, 0, 999);
        shop.reverse(0);
        shop.release(0, 2);
        due(shop, 0, 1, 0, 1);
        Check.yes("isConsistent", shop.isConsistent());
    }

    /** Angles that come round after 3200000 turns only, with gaps on both sides of 999. */
    private static void longestPeriod() {
        PlanetWorkshop shop = Tools.withGears(6, 40, 6, 40, 6, 40, 6, 40, 6, 40);
        for (int gear = 0; gear < 10; gear += 2) {
            shop.mesh(gear, gear + 1);
        }
        for (int gear = 1; gear < 9; gear += 2) {
            shop.shareAxle(gear, gear + 1);
        }
        Check.same("unitsPerTurn(0, 9)", shop.unitsPerTurn(0, 9), -Tools.TURN / 3200000L * 243L);
        shop.addPlanet(0);
        shop.addPlanet(9);
        due(shop, 0, 1, 0, 0);
        shop.setSpring(0, 200);
        shop.reverse(0);
        for (int turned = 10; turned <= 990; turned += 10) {
            shop.wind(0, 200);
            shop.release(0, 50);
            if (turned % 110 == 0) {
                due(shop, 0, 1, 0, turned);
                due(shop, 1, 0, 0, turned);
            }
        }
        shop.wind(0, 200);
        shop.release(0, 9);
        due(shop, 0, 1, 0, 999);
        shop.release(0, 1);
        due(shop, 0, 1, 0, 0);
        due(shop, 1, 0, 0, 0);
    }

    /** A train of ten different gears, where each pair of planets has a step of its own. */
    private static void manySteps() {
        PlanetWorkshop shop = Tools.withGears(15, 8, 6, 40, 20, 24, 10, 60, 8, 30);
        for (int gear = 0; gear < 10; gear += 2) {
            shop.mesh(gear, gear + 1);
        }
        for (int gear = 1; gear < 9; gear += 2) {
            shop.shareAxle(gear, gear + 1);
        }
        for (int gear = 4; gear < 10; gear++) {
            shop.addPlanet(gear);
        }
        shop.setSpring(0, 200);
        shop.wind(0, 200);
        shop.release(0, 7);
        Check.yes("isConsistent", shop.isConsistent());
        for (int one = 0; one < 6; one++) {
            for (int other = 0; other < 6; other++) {
                for (int key = 1; key < 10; key += 2) {
                    if (one != other) {
                        Check.same("both ways", answer(shop, one, other, key, true),
                                answer(shop, one, other, key, false));
                    }
                }
            }
        }
    }

    private static int answer(PlanetWorkshop shop, int one, int other, int key, boolean isSolved) {
        try {
            return isSolved ? shop.nextEclipse(one, other, key)
                    : shop.nextEclipseByTurns(one, other, key);
        } catch (java.util.NoSuchElementException e) {
            return 0;
        }
    }

    private static void ranking() {
        PlanetWorkshop shop = Tools.withGears(60, 40, 24, 20, 15);
        Check.refused("planetByAngle(0) without planets", Tools.MISSING, () -> shop.planetByAngle(0));
        for (int gear = 1; gear < 5; gear++) {
            shop.mesh(0, gear);
        }
        for (int gear = 1; gear < 5; gear++) {
            shop.addPlanet(gear);
        }
        shop.addPlanet(0);
        int[] start = {0, 1, 2, 3, 4};
        checkRanks(shop, start);
        shop.setSpring(0, 100);
        shop.wind(0, 100);
        shop.release(0, 1);
        // Angles now: 40 teeth 1/2, 24 teeth 1/2, 20, 15 and 60 teeth 0.
        int[] later = {2, 3, 4, 0, 1};
        checkRanks(shop, later);
        PlanetWorkshop falling = Tools.withGears(20, 60, 30);
        falling.mesh(0, 1);
        falling.mesh(0, 2);
        falling.addPlanet(1);
        falling.addPlanet(2);
        falling.addPlanet(0);
        falling.setSpring(0, 100);
        falling.wind(0, 100);
        falling.release(0, 1);
        // Angles now: planet 0 2/3, planet 1 1/3, planet 2 0.
        int[] downwards = {2, 1, 0};
        checkRanks(falling, downwards);
    }

    private static void checkRanks(PlanetWorkshop shop, int[] due) {
        for (int rank = 0; rank < due.length; rank++) {
            Check.same("planetByAngle(" + rank + ")", shop.planetByAngle(rank), due[rank]);
        }
        int[] wrong = {-1, due.length, Integer.MIN_VALUE, Integer.MAX_VALUE};
        for (int rank : wrong) {
            Check.refused("planetByAngle(" + rank + ")", Tools.MISSING,
                    () -> shop.planetByAngle(rank));
        }
    }

    private static void consistency() {
        PlanetWorkshop shop = new PlanetWorkshop();
        Check.yes("isConsistent of nothing", shop.isConsistent());
        PlanetWorkshop three = threeMeshed();
        Check.yes("isConsistent with two trains", three.isConsistent());
        three.release(0, 7);
        Check.yes("isConsistent after a release", three.isConsistent());
        three.undo();
        Check.yes("isConsistent after undo", three.isConsistent());
        Check.same("it changes nothing", three.undo(), 6);
    }
}
