/** The sentences of promises 14 to 32: what is told about gears, trains and springs. */
final class QueryPromises {
    private static final String NO_GEAR = "Throws IndexOutOfBoundsException if there is no such gear";
    private static final String NO_GEAR_OF_TWO = NO_GEAR + ", for either argument";
    private static final String NO_SPRING = "Throws NoSuchElementException if there is no spring in it";
    private static final String RETURNS_UNITS =
            "Returns the number of units, negative if it turns backwards.";
    private static final int[] ALLOWED = {6, 8, 10, 12, 15, 20, 24, 30, 40, 60};

    private QueryPromises() {
    }

    static void tell(Sentences told) {
        tellOfGears(told);
        tellOfTrains(told);
        tellOfUnits(told, 20, PlanetWorkshop::unitsPerTurn);
        tellOfUnits(told, 21, PlanetWorkshop::unitsPerTurnByLowest);
        tellOfAngles(told);
        tellOfSprings(told);
        tellOfRatchetsAndOil(told);
    }

    private static void tellOfGears(Sentences told) {
        told.promise(14, "Returns the number of gears.", QueryPromises::gearCount);
        told.promise(15, "Returns the teeth of a gear.", QueryPromises::teeth);
        told.promise(15, "Returns the number of teeth.", QueryPromises::teeth);
        told.promise(15, NO_GEAR, () -> Calls.noSuchGear(PlanetWorkshop::teeth));
        told.promise(16, "Returns how two gears are joined.", QueryPromises::joint);
        told.promise(16, "Returns 'm' for a mesh, 'a' for an axle.", QueryPromises::joint);
        told.promise(16, NO_GEAR_OF_TWO, () -> Calls.noSuchGearOfTwo(PlanetWorkshop::joint));
        told.promise(16, "Throws NoSuchElementException if they are not joined",
                QueryPromises::notJoined);
        told.promise(17, "Returns the number of joints.", QueryPromises::jointCount);
    }

    private static void tellOfTrains(Sentences told) {
        told.promise(18, "Returns the number of gears of the train of a gear.",
                QueryPromises::trainSize);
        told.promise(18, "Returns the number of gears.", QueryPromises::largestTrain);
        told.promise(18, NO_GEAR, () -> Calls.noSuchGear(PlanetWorkshop::trainSize));
        told.promise(19, "Returns whether two gears are in the same train.", QueryPromises::inTrain);
        told.promise(19, "the index of the other gear, which can be the same",
                QueryPromises::inTrainWithItself);
        told.promise(19, "Returns true if they are.", QueryPromises::inTrain);
        told.promise(19, NO_GEAR_OF_TWO, () -> Calls.noSuchGearOfTwo(PlanetWorkshop::areInTrain));
    }

    private static void tellOfUnits(Sentences told, int promise, Calls.OnTwo units) {
        told.promise(promise, promise == 20
                ? "Returns by how many units a gear turns when another gear of its train makes one turn "
                        + "forwards, computed along a shortest chain."
                : "Returns the same number as unitsPerTurn, computed from the turns of both gears for "
                        + "one turn of the gear with the lowest index of the train.",
                () -> unitsOfChain(units));
        told.promise(promise, "the index of the gear that turns, which can be the same",
                () -> unitsOfItself(units));
        told.promise(promise, RETURNS_UNITS, () -> signOfUnits(units));
        told.promise(promise, RETURNS_UNITS, () -> steepestUnits(units));
        told.promise(promise, NO_GEAR_OF_TWO, () -> Calls.noSuchGearOfTwo(units));
        told.promise(promise, "Throws NoSuchElementException if they are not in the same train",
                () -> unitsOfApart(units));
    }

    private static void tellOfAngles(Sentences told) {
        told.promise(22, "Returns the angle of a gear.", QueryPromises::angle);
        told.promise(22, "Returns the angle in units.", QueryPromises::angle);
        told.promise(22, NO_GEAR, () -> Calls.noSuchGear(PlanetWorkshop::angle));
        told.promise(23, "Returns the angle of a gear as a part of a turn: the angle divided by "
                + "24883200000, both converted to double.", QueryPromises::anglePart);
        told.promise(23, "Returns the part of a turn.", QueryPromises::leastAndGreatestPart);
        told.promise(23, NO_GEAR, () -> Calls.noSuchGear(PlanetWorkshop::anglePart));
    }

    private static void tellOfSprings(Sentences told) {
        told.promise(24, "Returns the tension of the spring in a gear.", QueryPromises::tension);
        told.promise(24, "Returns the tension.", QueryPromises::leastAndGreatestTension);
        told.promise(24, NO_GEAR, () -> Calls.noSuchGear(PlanetWorkshop::tension));
        told.promise(24, NO_SPRING, () -> SpringPromises.noSpring(PlanetWorkshop::tension));
        told.promise(25, "Returns the size of the spring in a gear.", QueryPromises::springSize);
        told.promise(25, "Returns the size.", QueryPromises::springSize);
        told.promise(25, NO_GEAR, () -> Calls.noSuchGear(PlanetWorkshop::springSize));
        told.promise(25, NO_SPRING, () -> SpringPromises.noSpring(PlanetWorkshop::springSize));
        told.promise(26, "Returns the gear with the spring of the train of a gear.",
                QueryPromises::springOf);
        told.promise(26, "Returns the index of the gear with the spring.", QueryPromises::springOf);
        told.promise(26, NO_GEAR, () -> Calls.noSuchGear(PlanetWorkshop::springOf));
        told.promise(26, "Throws NoSuchElementException if the train has no spring",
                QueryPromises::trainWithoutSpring);
        told.promise(27, "Returns the friction of the train of a gear.", QueryPromises::friction);
        told.promise(27, "Returns the friction.", QueryPromises::leastAndGreatestFriction);
        told.promise(27, NO_GEAR, () -> Calls.noSuchGear(PlanetWorkshop::friction));
        told.promise(28, "Returns how many turns the spring in a gear would last for now.",
                QueryPromises::turnsLeft);
        told.promise(28, "Returns the tension divided by the friction of the train.",
                QueryPromises::turnsLeft);
        told.promise(28, NO_GEAR, () -> Calls.noSuchGear(PlanetWorkshop::turnsLeft));
        told.promise(28, NO_SPRING, () -> SpringPromises.noSpring(PlanetWorkshop::turnsLeft));
    }

    private static void tellOfRatchetsAndOil(Sentences told) {
        told.promise(29, "Returns whether release would return normally for a gear now, with some "
                + "number of turns.", QueryPromises::canRelease);
        told.promise(29, "Returns true if it would.", QueryPromises::canReleaseForNoTurns);
        told.promise(29, NO_GEAR, () -> Calls.noSuchGear(PlanetWorkshop::canRelease));
        told.promise(30, "Returns whether a gear has a ratchet.", QueryPromises::hasRatchet);
        told.promise(30, "Returns true if it has one.", QueryPromises::hasRatchet);
        told.promise(30, NO_GEAR, () -> Calls.noSuchGear(PlanetWorkshop::hasRatchet));
        told.promise(31, "Returns whether a gear is dry.", QueryPromises::isDry);
        told.promise(31, "Returns true if it is dry.", QueryPromises::isDry);
        told.promise(31, NO_GEAR, () -> Calls.noSuchGear(PlanetWorkshop::isDry));
        told.promise(32, "Returns the wear of an oiled gear.", QueryPromises::wear);
        told.promise(32, "Returns the number of whole turns in its wear.", QueryPromises::wholeTurns);
        told.promise(32, NO_GEAR, () -> Calls.noSuchGear(PlanetWorkshop::wear));
        told.promise(32, "Throws NoSuchElementException if it is dry", QueryPromises::wearOfDry);
    }

    private static void gearCount() {
        PlanetWorkshop shop = new PlanetWorkshop();
        for (int gears = 0; gears < 10; gears++) {
            Check.same("gearCount()", shop.gearCount(), gears);
            shop.addGear(60);
        }
        Check.same("gearCount()", shop.gearCount(), 10);
        shop.undo();
        Check.same("gearCount() after undo", shop.gearCount(), 9);
        View.unchanged("gearCount()", Shops::rich, PlanetWorkshop::gearCount);
    }

    private static void teeth() {
        for (int gear = 0; gear < 10; gear++) {
            Check.same("teeth(" + gear + ")", Shops.full().teeth(gear), ALLOWED[gear]);
        }
        Calls.query("teeth", Shops::rich, PlanetWorkshop::teeth, 0, 20);
        Calls.query("teeth", Shops::rich, PlanetWorkshop::teeth, 3, 15);
    }

    private static void joint() {
        PlanetWorkshop shop = Tools.withGears(6, 8, 10, 12, 15, 20, 24, 30, 40, 60);
        shop.mesh(0, 9);
        shop.shareAxle(9, 8);
        shop.mesh(1, 7);
        Check.same("joint(0, 9)", shop.joint(0, 9), 'm');
        Check.same("joint(9, 0)", shop.joint(9, 0), 'm');
        Check.same("joint(9, 8)", shop.joint(9, 8), 'a');
        Check.same("joint(8, 9)", shop.joint(8, 9), 'a');
        Check.same("joint(1, 7)", shop.joint(1, 7), 'm');
        shop.separate(1, 7);
        shop.shareAxle(7, 1);
        Check.same("joint(1, 7) anew", shop.joint(1, 7), 'a');
        View.unchanged("joint(0, 1)", Shops::rich, rich -> rich.joint(0, 1));
    }

    private static void notJoined() {
        int[][] apart = {{0, 0}, {3, 3}, {0, 2}, {2, 0}, {1, 3}, {3, 1}};
        for (int[] pair : apart) {
            View.refused("joint(" + pair[0] + ", " + pair[1] + ")", Tools.MISSING, Shops::rich,
                    shop -> shop.joint(pair[0], pair[1]));
        }
        Check.refused("joint(9, 9)", Tools.MISSING, () -> Shops.full().joint(9, 9));
        Check.refused("joint(0, 9), by a chain only", Tools.MISSING,
                () -> Shops.full().joint(0, 9));
    }

    private static void jointCount() {
        Check.same("of nothing", new PlanetWorkshop().jointCount(), 0);
        Check.same("of 2", Shops.rich().jointCount(), 2);
        Check.same("of 15", Shops.full().jointCount(), 15);
        View.unchanged("jointCount()", Shops::rich, PlanetWorkshop::jointCount);
    }

    private static void trainSize() {
        int[] due = {2, 2, 2, 2};
        for (int gear = 0; gear < 4; gear++) {
            Calls.query("trainSize", Shops::rich, PlanetWorkshop::trainSize, gear, due[gear]);
        }
        PlanetWorkshop shop = Tools.withGears(20, 60, 12);
        shop.mesh(2, 0);
        Check.same("trainSize(0)", shop.trainSize(0), 2);
        Check.same("trainSize(1)", shop.trainSize(1), 1);
        Check.same("trainSize(2)", shop.trainSize(2), 2);
    }

    private static void largestTrain() {
        for (int gear = 0; gear < 10; gear++) {
            Check.same("trainSize(" + gear + ")", Shops.full().trainSize(gear), 10);
            Check.same("of gears alone", Tools.withGears(ALLOWED).trainSize(gear), 1);
        }
    }

    private static void inTrain() {
        for (int one = 0; one < 4; one++) {
            for (int other = 0; other < 4; other++) {
                Check.same("areInTrain(" + one + ", " + other + ")",
                        Shops.rich().areInTrain(one, other), one / 2 == other / 2);
            }
        }
        Check.yes("areInTrain(0, 9)", Shops.full().areInTrain(0, 9));
        Check.yes("areInTrain(9, 0)", Shops.full().areInTrain(9, 0));
        View.unchanged("areInTrain(0, 3)", Shops::rich, shop -> shop.areInTrain(0, 3));
    }

    private static void inTrainWithItself() {
        Check.yes("a gear alone", Tools.withGears(6).areInTrain(0, 0));
        for (int gear = 0; gear < 10; gear++) {
            Check.yes("areInTrain(" + gear + ", " + gear + ")", Shops.full().areInTrain(gear, gear));
        }
    }

    /** Turns of the gears: 1, -1/3, -1/3, 4/9, 4/9, and 8/9 of gear 5, all in one train. */
    private static PlanetWorkshop chain() {
        PlanetWorkshop shop = Tools.withGears(20, 60, 40, 30, 24, 12, 10);
        Tools.run(shop, "mesh 01;axle 12;mesh 23;axle 34;mesh 45");
        return shop;
    }

    private static void unitsOfChain(Calls.OnTwo units) {
        long[] above = {9, -3, -3, 4, 4, -8};
        for (int driver = 0; driver < 6; driver++) {
            for (int gear = 0; gear < 6; gear++) {
                long due = Tools.TURN * above[gear] / above[driver];
                Check.same("(" + driver + ", " + gear + ")", units.call(chain(), driver, gear), due);
            }
        }
        View.unchanged("(0, 5)", QueryPromises::chain, shop -> units.call(shop, 0, 5));
    }

    private static void unitsOfItself(Calls.OnTwo units) {
        for (int gear = 0; gear < 7; gear++) {
            Check.same("(" + gear + ", " + gear + ")", units.call(chain(), gear, gear), Tools.TURN);
        }
        Check.same("a gear alone", units.call(Tools.withGears(60), 0, 0), Tools.TURN);
    }

    private static void signOfUnits(Calls.OnTwo units) {
        PlanetWorkshop shop = Tools.withGears(20, 20, 20, 20);
        Tools.run(shop, "mesh 01;mesh 12;axle 23");
        Check.same("one mesh", units.call(shop, 0, 1), -Tools.TURN);
        Check.same("one mesh back", units.call(shop, 1, 0), -Tools.TURN);
        Check.same("two meshes", units.call(shop, 0, 2), Tools.TURN);
        Check.same("an axle", units.call(shop, 3, 2), Tools.TURN);
        Check.same("an axle and a mesh", units.call(shop, 3, 1), -Tools.TURN);
        shop.setSpring(3, 20);
        shop.reverse(3);
        Check.same("whatever the spring's way", units.call(shop, 3, 2), Tools.TURN);
    }

    private static void steepestUnits(Calls.OnTwo units) {
        PlanetWorkshop shop = Tools.withGears(60, 6, 60, 6, 60, 6, 60, 6, 60, 6);
        for (int gear = 0; gear < 10; gear += 2) {
            shop.mesh(gear, gear + 1);
        }
        for (int gear = 1; gear < 9; gear += 2) {
            shop.shareAxle(gear, gear + 1);
        }
        Check.same("the most units", units.call(shop, 0, 9), -100000L * Tools.TURN);
        Check.same("the fewest units", units.call(shop, 9, 0), -248832L);
        Check.same("two steep gears", units.call(shop, 7, 9), -10L * Tools.TURN);
        Check.same("two steep gears back", units.call(shop, 9, 7), -Tools.TURN / 10L);
    }

    private static void unitsOfApart(Calls.OnTwo units) {
        int[][] apart = {{0, 2}, {2, 0}, {1, 3}, {3, 0}};
        for (int[] pair : apart) {
            View.refused("(" + pair[0] + ", " + pair[1] + ")", Tools.MISSING, Shops::rich,
                    shop -> units.call(shop, pair[0], pair[1]));
        }
        Check.refused("(6, 0)", Tools.MISSING, () -> units.call(chain(), 6, 0));
        Check.refused("(5, 6)", Tools.MISSING, () -> units.call(chain(), 5, 6));
    }

    private static void angle() {
        long[] due = {0L, Tools.TURN / 3, 0L, 0L};
        for (int gear = 0; gear < 4; gear++) {
            Calls.query("angle", Shops::rich, PlanetWorkshop::angle, gear, due[gear]);
        }
    }

    private static void anglePart() {
        Calls.query("anglePart", Shops::rich, PlanetWorkshop::anglePart, 0, 0.0);
        Calls.query("anglePart", Shops::rich, PlanetWorkshop::anglePart, 1, 1.0 / 3.0);
        PlanetWorkshop shop = Tools.withGears(15, 24, 40);
        Tools.run(shop, "mesh 01;axle 12;spring 0 200;wind 0 200");
        for (int turns = 1; turns <= 33; turns++) {
            shop.release(0, 1);
            long eighths = (8L - turns * 5L % 8L) % 8L;
            Check.same("anglePart(1)", shop.anglePart(1), (double) eighths / 8.0);
        }
    }

    /** The least angle above 0 that a turn of a gear makes, and the greatest one. */
    private static void leastAndGreatestPart() {
        PlanetWorkshop shop = slow();
        shop.release(9, 1);
        Check.same("the greatest", shop.anglePart(0), 24882951168.0 / 24883200000.0);
        shop.reverse(9);
        shop.release(9, 1);
        Check.same("none", shop.anglePart(0), 0.0);
        shop.release(9, 1);
        Check.same("the least", shop.anglePart(0), 248832.0 / 24883200000.0);
    }

    /** Gear 0 makes 1 / 100000 of a turn backwards when gear 9 makes one. */
    static PlanetWorkshop slow() {
        PlanetWorkshop shop = Tools.withGears(60, 6, 60, 6, 60, 6, 60, 6, 60, 6);
        for (int gear = 0; gear < 10; gear += 2) {
            shop.mesh(gear, gear + 1);
        }
        for (int gear = 1; gear < 9; gear += 2) {
            shop.shareAxle(gear, gear + 1);
        }
        shop.setSpring(9, 200);
        shop.wind(9, 200);
        return shop;
    }

    private static void tension() {
        Calls.query("tension", Shops::rich, PlanetWorkshop::tension, 0, 34);
        Calls.query("tension", Shops::rich, PlanetWorkshop::tension, 3, 5);
    }

    private static void leastAndGreatestTension() {
        PlanetWorkshop shop = Tools.withGears(20);
        shop.setSpring(0, 200);
        Check.same("tension(0)", shop.tension(0), 0);
        shop.wind(0, 200);
        Check.same("tension(0)", shop.tension(0), 200);
        shop.release(0, 50);
        shop.release(0, 50);
        Check.same("tension(0)", shop.tension(0), 0);
    }

    private static void springSize() {
        Calls.query("springSize", Shops::rich, PlanetWorkshop::springSize, 0, 100);
        Calls.query("springSize", Shops::rich, PlanetWorkshop::springSize, 3, 30);
        Check.same("springSize(5)", Shops.full().springSize(5), 200);
    }

    private static void springOf() {
        int[] due = {0, 0, 3, 3};
        for (int gear = 0; gear < 4; gear++) {
            Calls.query("springOf", Shops::rich, PlanetWorkshop::springOf, gear, due[gear]);
        }
        for (int gear = 0; gear < 10; gear++) {
            Check.same("springOf(" + gear + ")", Shops.full().springOf(gear), 5);
        }
    }

    private static void trainWithoutSpring() {
        View.refused("of a gear alone", Tools.MISSING, () -> Tools.withGears(20),
                shop -> shop.springOf(0));
        View.refused("of a train", Tools.MISSING, QueryPromises::chain, shop -> shop.springOf(0));
        PlanetWorkshop shop = chain();
        shop.setSpring(6, 10);
        Check.refused("with a spring elsewhere", Tools.MISSING, () -> shop.springOf(5));
        shop.setSpring(5, 10);
        shop.separate(4, 5);
        Check.refused("when the spring's gear is separated", Tools.MISSING, () -> shop.springOf(4));
    }

    private static void friction() {
        int[] due = {3, 3, 4, 4};
        for (int gear = 0; gear < 4; gear++) {
            Calls.query("friction", Shops::rich, PlanetWorkshop::friction, gear, due[gear]);
        }
        PlanetWorkshop shop = chain();
        for (int oiled = 0; oiled <= 6; oiled++) {
            Check.same("friction(0)", shop.friction(0), oiled < 6 ? 12 - oiled : 6);
            Check.same("friction(6)", shop.friction(6), 2);
            if (oiled < 6) {
                shop.oil(oiled);
            }
        }
    }

    private static void leastAndGreatestFriction() {
        PlanetWorkshop least = Tools.withGears(20);
        Check.same("a dry gear", least.friction(0), 2);
        least.oil(0);
        Check.same("an oiled gear", least.friction(0), 1);
        PlanetWorkshop greatest = Shops.full();
        Check.same("ten dry gears", greatest.friction(0), 20);
        for (int gear = 0; gear < 10; gear++) {
            greatest.oil(gear);
        }
        Check.same("ten oiled gears", greatest.friction(9), 10);
    }

    private static void turnsLeft() {
        Calls.query("turnsLeft", Shops::rich, PlanetWorkshop::turnsLeft, 0, 11);
        Calls.query("turnsLeft", Shops::rich, PlanetWorkshop::turnsLeft, 3, 1);
        PlanetWorkshop shop = Tools.withGears(20);
        shop.setSpring(0, 200);
        for (int tension = 0; tension <= 200; tension++) {
            Check.same("turnsLeft(0)", shop.turnsLeft(0), tension / 2);
            if (tension < 200) {
                shop.wind(0, 1);
            }
        }
        shop.oil(0);
        Check.same("more than a release makes", shop.turnsLeft(0), 200);
    }

    private static void canRelease() {
        boolean[] due = {true, false, false, false};
        for (int gear = 0; gear < 4; gear++) {
            Calls.query("canRelease", Shops::rich, PlanetWorkshop::canRelease, gear, due[gear]);
        }
        PlanetWorkshop shop = Shops.rich();
        Check.refused("release(3, 1)", Tools.UNSUPPORTED, () -> shop.release(3, 1));
        shop.reverse(3);
        Check.yes("canRelease(3) forwards", shop.canRelease(3));
        Check.same("release(3, 1)", shop.release(3, 1), 1);
        shop.setRatchet(1, true);
        Check.no("canRelease(0) with a ratchet", shop.canRelease(0));
        shop.setRatchet(0, true);
        shop.reverse(0);
        Check.no("canRelease(0) with its own ratchet", shop.canRelease(0));
        shop.setRatchet(0, false);
        Check.yes("canRelease(0) reversed", shop.canRelease(0));
    }

    /** Release returns normally, with 0, when the tension is too low for a turn. */
    private static void canReleaseForNoTurns() {
        PlanetWorkshop shop = Tools.withGears(20, 60);
        Check.no("without a spring", shop.canRelease(0));
        shop.setSpring(0, 10);
        Check.yes("without tension", shop.canRelease(0));
        shop.wind(0, 1);
        Check.yes("with little tension", shop.canRelease(0));
        shop.mesh(0, 1);
        shop.setRatchet(1, true);
        Check.no("with a ratchet and little tension", shop.canRelease(0));
    }

    private static void hasRatchet() {
        boolean[] due = {false, false, true, false};
        for (int gear = 0; gear < 4; gear++) {
            Calls.query("hasRatchet", Shops::rich, PlanetWorkshop::hasRatchet, gear, due[gear]);
        }
    }

    private static void isDry() {
        boolean[] due = {true, false, true, true};
        for (int gear = 0; gear < 4; gear++) {
            Calls.query("isDry", Shops::rich, PlanetWorkshop::isDry, gear, due[gear]);
        }
    }

    private static void wear() {
        Calls.query("wear", Shops::rich, PlanetWorkshop::wear, 1, 0);
        PlanetWorkshop shop = Tools.withGears(20);
        Tools.run(shop, "spring 0 60;wind 0 60;oil 0");
        for (int turns = 0; turns < 30; turns++) {
            Check.same("wear(0)", shop.wear(0), turns);
            shop.release(0, 1);
        }
        Check.yes("isDry(0)", shop.isDry(0));
    }

    /** Gear 1 makes 2 / 3 of a turn for each turn of gear 0. */
    private static void wholeTurns() {
        PlanetWorkshop shop = Tools.withGears(40, 60);
        Tools.run(shop, "mesh 01;spring 0 200;wind 0 200;oil 1");
        for (int turns = 0; turns < 45; turns++) {
            Check.same("wear(1)", shop.wear(1), turns * 2 / 3);
            shop.release(0, 1);
        }
        Check.yes("isDry(1)", shop.isDry(1));
    }

    private static void wearOfDry() {
        View.refused("wear(0)", Tools.MISSING, Shops::rich, shop -> shop.wear(0));
        View.refused("wear(3)", Tools.MISSING, Shops::rich, shop -> shop.wear(3));
        PlanetWorkshop shop = Tools.withGears(20);
        Tools.run(shop, "spring 0 60;wind 0 60;oil 0;run 0 30");
        Check.refused("when it ran dry", Tools.MISSING, () -> shop.wear(0));
        shop.oil(0);
        Check.same("when it is oiled again", shop.wear(0), 0);
    }
}
