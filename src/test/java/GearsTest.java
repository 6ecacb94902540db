/** Promises 1 to 5 and 14 to 21: gears, joints, trains and units per turn. */
public final class GearsTest {
    private static final int[] ALLOWED = {6, 8, 10, 12, 15, 20, 24, 30, 40, 60};

    public static void main(String[] args) {
        newObject();
        addGear();
        mesh();
        shareAxle();
        jointRefusals();
        jointLimit();
        allowedLoops();
        twoSprings();
        separate();
        queries();
        trains();
        units();
        longChain();
        Check.end("GearsTest");
    }

    private static void newObject() {
        PlanetWorkshop shop = new PlanetWorkshop();
        Check.same("gearCount", shop.gearCount(), 0);
        Check.same("planetCount", shop.planetCount(), 0);
        Check.same("jointCount", shop.jointCount(), 0);
        Check.same("drops", shop.drops(), 12);
        Check.same("woundTotal", shop.woundTotal(), 0);
        Check.same("tensionTotal", shop.tensionTotal(), 0);
        Check.same("tensionByAccounts", shop.tensionByAccounts(), 0);
        Check.same("releaseTotal", shop.releaseTotal(), 0);
        Check.yes("isConsistent", shop.isConsistent());
        Check.refused("undo", Tools.MISSING, shop::undo);
        Check.refused("teeth(0)", Tools.INDEX, () -> shop.teeth(0));
        PlanetWorkshop used = Tools.withGears(6, 8);
        Check.same("gears of a used object", used.gearCount(), 2);
        Check.same("gears of a new object", new PlanetWorkshop().gearCount(), 0);
    }

    private static void addGear() {
        PlanetWorkshop shop = new PlanetWorkshop();
        for (int teeth = -70; teeth <= 130; teeth++) {
            final int number = teeth;
            boolean isAllowed = false;
            for (int one : ALLOWED) {
                isAllowed |= one == number;
            }
            if (!isAllowed) {
                Check.refused("addGear(" + number + ")", Tools.ARGUMENT, () -> shop.addGear(number));
            }
        }
        for (int index = 0; index < ALLOWED.length; index++) {
            Check.same("addGear(" + ALLOWED[index] + ")", shop.addGear(ALLOWED[index]), index);
            Check.same("gearCount", shop.gearCount(), index + 1);
            Check.same("teeth", shop.teeth(index), ALLOWED[index]);
            Check.yes("isDry", shop.isDry(index));
            Check.no("hasRatchet", shop.hasRatchet(index));
            Check.same("angle", shop.angle(index), 0L);
        }
        Check.refused("an eleventh gear", Tools.STATE, () -> shop.addGear(6));
        Check.refused("an eleventh gear, wrong teeth", Tools.ARGUMENT, () -> shop.addGear(7));
        Check.refused("least teeth", Tools.ARGUMENT, () -> shop.addGear(Integer.MIN_VALUE));
        Check.same("gearCount", shop.gearCount(), 10);
    }

    private static void mesh() {
        PlanetWorkshop shop = Tools.withGears(20, 60, 12, 15);
        Check.same("mesh(0, 1)", shop.mesh(0, 1), 2);
        Check.same("mesh(3, 2)", shop.mesh(3, 2), 2);
        Check.same("mesh(3, 1)", shop.mesh(3, 1), 4);
        Check.same("joint(0, 1)", shop.joint(0, 1), 'm');
        Check.same("joint(1, 0)", shop.joint(1, 0), 'm');
        Check.same("jointCount", shop.jointCount(), 3);
        Check.same("unitsPerTurn(0, 1)", shop.unitsPerTurn(0, 1), -Tools.TURN / 3);
        Check.same("unitsPerTurn(1, 0)", shop.unitsPerTurn(1, 0), -Tools.TURN * 3);
        Check.same("unitsPerTurn(0, 3)", shop.unitsPerTurn(0, 3), Tools.TURN / 3 * 4);
        Check.same("unitsPerTurn(0, 2)", shop.unitsPerTurn(0, 2), -Tools.TURN / 3 * 5);
    }

    private static void shareAxle() {
        PlanetWorkshop shop = Tools.withGears(20, 60, 12);
        Check.same("shareAxle(1, 0)", shop.shareAxle(1, 0), 2);
        Check.same("joint(0, 1)", shop.joint(0, 1), 'a');
        Check.same("joint(1, 0)", shop.joint(1, 0), 'a');
        Check.same("unitsPerTurn(0, 1)", shop.unitsPerTurn(0, 1), Tools.TURN);
        Check.same("shareAxle(1, 2)", shop.shareAxle(1, 2), 3);
        Check.same("shareAxle(0, 2)", shop.shareAxle(0, 2), 3);
        Check.same("jointCount", shop.jointCount(), 3);
    }

    private static void jointRefusals() {
        PlanetWorkshop shop = Tools.withGears(20, 60);
        int[][] wrong = {{-1, 0}, {0, -1}, {2, 0}, {0, 2}, {2, 2}, {-1, -1},
            {Integer.MIN_VALUE, 0}, {0, Integer.MAX_VALUE}};
        for (int[] pair : wrong) {
            String text = "(" + pair[0] + ", " + pair[1] + ")";
            Check.refused("mesh" + text, Tools.INDEX, () -> shop.mesh(pair[0], pair[1]));
            Check.refused("shareAxle" + text, Tools.INDEX, () -> shop.shareAxle(pair[0], pair[1]));
            Check.refused("separate" + text, Tools.INDEX, () -> shop.separate(pair[0], pair[1]));
            Check.refused("joint" + text, Tools.INDEX, () -> shop.joint(pair[0], pair[1]));
            Check.refused("areInTrain" + text, Tools.INDEX, () -> shop.areInTrain(pair[0], pair[1]));
            Check.refused("unitsPerTurn" + text, Tools.INDEX,
                    () -> shop.unitsPerTurn(pair[0], pair[1]));
            Check.refused("unitsPerTurnByLowest" + text, Tools.INDEX,
                    () -> shop.unitsPerTurnByLowest(pair[0], pair[1]));
        }
        Check.refused("mesh(1, 1)", Tools.ARGUMENT, () -> shop.mesh(1, 1));
        Check.refused("shareAxle(1, 1)", Tools.ARGUMENT, () -> shop.shareAxle(1, 1));
        Check.refused("separate(1, 1)", Tools.MISSING, () -> shop.separate(1, 1));
        Check.refused("joint(1, 1)", Tools.MISSING, () -> shop.joint(1, 1));
        shop.mesh(0, 1);
        Check.refused("mesh(0, 1) again", Tools.STATE, () -> shop.mesh(0, 1));
        Check.refused("mesh(1, 0) again", Tools.STATE, () -> shop.mesh(1, 0));
        Check.refused("shareAxle(0, 1) too", Tools.STATE, () -> shop.shareAxle(0, 1));
        Check.refused("shareAxle(1, 0) too", Tools.STATE, () -> shop.shareAxle(1, 0));
        Check.same("joint(0, 1)", shop.joint(0, 1), 'm');
        Check.same("jointCount", shop.jointCount(), 1);
    }

    /** Six gears on one axle have 15 joints; the next one is refused whether allowed or not. */
    private static void jointLimit() {
        PlanetWorkshop shop = Tools.withGears(6, 8, 10, 12, 15, 20, 20);
        int joints = 0;
        for (int one = 0; one < 6; one++) {
            for (int other = one + 1; other < 6; other++) {
                shop.shareAxle(one, other);
                joints++;
                Check.same("jointCount", shop.jointCount(), joints);
            }
        }
        Check.refused("a joint too many", Tools.STATE, () -> shop.mesh(5, 6));
        Check.refused("an axle too many", Tools.STATE, () -> shop.shareAxle(6, 0));
        Check.refused("same gears", Tools.ARGUMENT, () -> shop.shareAxle(6, 6));
        Check.same("separate", shop.separate(4, 5), 14);
        Check.refused("not allowed", Tools.UNSUPPORTED, () -> shop.mesh(4, 5));
        Check.same("a joint in its place", shop.mesh(6, 5), 7);
        Check.refused("not allowed either", Tools.STATE, () -> shop.mesh(4, 5));
    }

    private static void allowedLoops() {
        PlanetWorkshop shop = Tools.withGears(20, 60, 12, 15, 30, 30);
        shop.mesh(0, 1);
        shop.mesh(1, 2);
        Check.refused("three gears in a ring", Tools.UNSUPPORTED, () -> shop.mesh(0, 2));
        Check.refused("an axle with another speed", Tools.UNSUPPORTED, () -> shop.shareAxle(0, 2));
        shop.mesh(2, 3);
        Check.same("four gears in a ring", shop.mesh(3, 0), 4);
        shop.mesh(4, 0);
        shop.mesh(5, 0);
        Check.refused("two equal gears that turn alike", Tools.UNSUPPORTED, () -> shop.mesh(4, 5));
        Check.same("but on one axle", shop.shareAxle(4, 5), 6);
        Check.same("jointCount", shop.jointCount(), 7);
        PlanetWorkshop alike = Tools.withGears(20, 20, 20);
        alike.mesh(0, 1);
        alike.shareAxle(1, 2);
        Check.refused("the other direction", Tools.UNSUPPORTED, () -> alike.shareAxle(0, 2));
        Check.same("the same direction", alike.mesh(0, 2), 3);
    }

    private static void twoSprings() {
        PlanetWorkshop shop = Tools.withGears(20, 60, 12, 15);
        shop.mesh(0, 1);
        shop.mesh(2, 3);
        shop.setSpring(1, 10);
        shop.setSpring(2, 10);
        Check.refused("mesh of two springs", Tools.STATE, () -> shop.mesh(0, 3));
        Check.refused("axle of two springs", Tools.STATE, () -> shop.shareAxle(3, 0));
        Check.same("jointCount", shop.jointCount(), 2);
        PlanetWorkshop one = Tools.withGears(20, 60, 12);
        one.setSpring(0, 10);
        Check.same("a spring on one side", one.mesh(0, 1), 2);
        Check.same("a spring on the other side", one.mesh(2, 0), 3);
        Check.refused("a joint in a train with a spring", Tools.UNSUPPORTED, () -> one.mesh(1, 2));
    }

    private static void separate() {
        PlanetWorkshop shop = Tools.withGears(20, 60, 12);
        shop.mesh(0, 1);
        shop.mesh(1, 2);
        Check.refused("separate(0, 2)", Tools.MISSING, () -> shop.separate(0, 2));
        shop.setSpring(2, 40);
        shop.wind(2, 30);
        Check.same("separate(2, 1)", shop.separate(2, 1), 1);
        Check.refused("separate(2, 1) again", Tools.MISSING, () -> shop.separate(2, 1));
        Check.refused("joint(1, 2)", Tools.MISSING, () -> shop.joint(1, 2));
        Check.same("tension stays", shop.tension(2), 30);
        Check.refused("springOf(0)", Tools.MISSING, () -> shop.springOf(0));
        Check.same("springOf(2)", shop.springOf(2), 2);
        Check.same("separate(0, 1)", shop.separate(0, 1), 0);
        Check.same("trainSize(0)", shop.trainSize(0), 1);
        Check.same("another joint", shop.shareAxle(0, 2), 2);
    }

    private static void queries() {
        PlanetWorkshop shop = Tools.withGears(20, 60);
        int[] wrong = {-1, 2, 10, Integer.MIN_VALUE, Integer.MAX_VALUE};
        for (int gear : wrong) {
            Check.refused("teeth(" + gear + ")", Tools.INDEX, () -> shop.teeth(gear));
            Check.refused("trainSize(" + gear + ")", Tools.INDEX, () -> shop.trainSize(gear));
        }
        Check.same("teeth(1)", shop.teeth(1), 60);
    }

    private static void trains() {
        PlanetWorkshop shop = Tools.withGears(20, 60, 12, 15, 6);
        Check.same("trainSize(4)", shop.trainSize(4), 1);
        Check.yes("areInTrain(4, 4)", shop.areInTrain(4, 4));
        Check.no("areInTrain(0, 4)", shop.areInTrain(0, 4));
        shop.mesh(4, 2);
        shop.shareAxle(2, 0);
        Check.same("trainSize(0)", shop.trainSize(0), 3);
        Check.same("trainSize(4)", shop.trainSize(4), 3);
        Check.same("trainSize(1)", shop.trainSize(1), 1);
        Check.yes("areInTrain(0, 4)", shop.areInTrain(0, 4));
        Check.yes("areInTrain(4, 0)", shop.areInTrain(4, 0));
        Check.no("areInTrain(1, 4)", shop.areInTrain(1, 4));
    }

    private static void units() {
        PlanetWorkshop shop = Tools.withGears(20, 60, 12, 15);
        Check.same("unitsPerTurn(3, 3)", shop.unitsPerTurn(3, 3), Tools.TURN);
        Check.same("unitsPerTurnByLowest(3, 3)", shop.unitsPerTurnByLowest(3, 3), Tools.TURN);
        Check.refused("unitsPerTurn(0, 1)", Tools.MISSING, () -> shop.unitsPerTurn(0, 1));
        Check.refused("unitsPerTurnByLowest(0, 1)", Tools.MISSING,
                () -> shop.unitsPerTurnByLowest(0, 1));
        shop.mesh(3, 1);
        shop.shareAxle(1, 2);
        for (int driver = 1; driver < 4; driver++) {
            for (int gear = 1; gear < 4; gear++) {
                long turns = driver == 3 ? 1 : -4;
                long due = (driver == 3) == (gear == 3) ? Tools.TURN
                        : driver == 3 ? -Tools.TURN / 4 : Tools.TURN * turns;
                String call = "(" + driver + ", " + gear + ")";
                Check.same("unitsPerTurn" + call, shop.unitsPerTurn(driver, gear), due);
                Check.same("unitsPerTurnByLowest" + call, shop.unitsPerTurnByLowest(driver, gear),
                        due);
            }
        }
    }

    /** The steepest train that ten gears make, where plain products would leave the range. */
    private static void longChain() {
        PlanetWorkshop shop = Tools.withGears(60, 6, 60, 6, 60, 6, 60, 6, 60, 6);
        for (int gear = 0; gear < 10; gear += 2) {
            shop.mesh(gear, gear + 1);
        }
        for (int gear = 1; gear < 9; gear += 2) {
            shop.shareAxle(gear, gear + 1);
        }
        Check.same("trainSize(3)", shop.trainSize(3), 10);
        Check.same("unitsPerTurn(0, 9)", shop.unitsPerTurn(0, 9), -100000L * Tools.TURN);
        Check.same("unitsPerTurnByLowest(0, 9)", shop.unitsPerTurnByLowest(0, 9),
                -100000L * Tools.TURN);
        Check.same("unitsPerTurn(9, 0)", shop.unitsPerTurn(9, 0), -Tools.TURN / 100000L);
        Check.same("unitsPerTurnByLowest(9, 0)", shop.unitsPerTurnByLowest(9, 0),
                -Tools.TURN / 100000L);
        Check.same("unitsPerTurnByLowest(9, 8)", shop.unitsPerTurnByLowest(9, 8), -Tools.TURN / 10);
        Check.same("unitsPerTurnByLowest(8, 9)", shop.unitsPerTurnByLowest(8, 9), -Tools.TURN * 10);
        Check.same("unitsPerTurnByLowest(9, 9)", shop.unitsPerTurnByLowest(9, 9), Tools.TURN);
        Check.yes("isConsistent", shop.isConsistent());
    }
}
