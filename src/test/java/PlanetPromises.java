/** The sentences of promises 33 to 39: drops, planets and eclipses. */
final class PlanetPromises {
    private static final String SAME_PLANETS =
            "Throws IllegalArgumentException if both planets are the same";

    private PlanetPromises() {
    }

    static void tell(Sentences told) {
        told.promise(33, "Returns the number of drops of oil.", PlanetPromises::drops);
        told.promise(33, "Returns the number of drops.", PlanetPromises::drops);
        told.promise(34, "Returns the number of planets.", PlanetPromises::planetCount);
        told.promise(35, "Returns the gear that carries a planet.", PlanetPromises::gearOf);
        told.promise(35, "Returns the index of the gear.", PlanetPromises::gearOf);
        told.promise(35, "Throws IndexOutOfBoundsException if there is no such planet",
                () -> Calls.noSuchPlanet(PlanetWorkshop::gearOf));
        told.promise(36, "Returns whether two planets are in line.", PlanetPromises::inLine);
        told.promise(36, "Returns true if they are in line.", PlanetPromises::nearlyInLine);
        told.promise(36, "Throws IndexOutOfBoundsException if there is no such planet, for either of "
                + "them", PlanetPromises::inLineOfNoPlanets);
        told.promise(36, SAME_PLANETS, PlanetPromises::inLineWithItself);
        told.promise(37, "Returns the next eclipse of two planets, found by solving for the number of "
                + "turns.", () -> eclipses(PlanetWorkshop::nextEclipse));
        told.promise(38, "Returns the same number as nextEclipse, found by letting the key make turn "
                + "after turn.", () -> eclipses(PlanetWorkshop::nextEclipseByTurns));
        tellOfEclipses(told, 37, PlanetWorkshop::nextEclipse);
        tellOfEclipses(told, 38, PlanetWorkshop::nextEclipseByTurns);
        told.promise(39, "Returns the planet at a rank when planets are sorted by the angles of their "
                + "gears in ascending order, then by index in ascending order.",
                PlanetPromises::ranks);
        told.promise(39, "the rank, counted from 0", PlanetPromises::ranksOfEqualAngles);
        told.promise(39, "Returns the index of the planet.", PlanetPromises::ranks);
        told.promise(39, "Throws NoSuchElementException if there is no such rank",
                PlanetPromises::noSuchRank);
    }

    interface Eclipse {
        int call(PlanetWorkshop shop, int one, int other, int key);
    }

    private static void tellOfEclipses(Sentences told, int promise, Eclipse next) {
        String turns = "Returns the number of turns.";
        told.promise(promise, turns, () -> firstTurn(next));
        told.promise(promise, turns, () -> lastTurn(next));
        told.promise(promise, turns, () -> longPeriod(next));
        told.promise(promise, "Throws IndexOutOfBoundsException if there is no such planet, for either "
                + "of them, or no such gear", () -> eclipseOfNothing(next));
        told.promise(promise, SAME_PLANETS, () -> eclipseWithItself(next));
        told.promise(promise, "Throws IllegalStateException if the gears of both planets and the key "
                + "are not all in the same train", () -> eclipseOfTwoTrains(next));
        told.promise(promise, "Throws NoSuchElementException if there is no such number of turns",
                () -> noEclipse(next));
    }

    private static void drops() {
        Check.same("at first", new PlanetWorkshop().drops(), 12);
        Check.same("none", Shops.withoutDrops().drops(), 0);
        Check.same("all", Shops.full().drops(), 99);
        Check.same("after oil", Shops.rich().drops(), 11);
        View.unchanged("drops()", Shops::rich, PlanetWorkshop::drops);
    }

    private static void planetCount() {
        PlanetWorkshop shop = Tools.withGears(6, 6, 6, 6, 6, 6);
        for (int planets = 0; planets < 6; planets++) {
            Check.same("planetCount()", shop.planetCount(), planets);
            shop.addPlanet(planets);
        }
        Check.same("planetCount()", shop.planetCount(), 6);
        shop.undo();
        Check.same("planetCount() after undo", shop.planetCount(), 5);
        View.unchanged("planetCount()", Shops::rich, PlanetWorkshop::planetCount);
    }

    private static void gearOf() {
        Calls.query("gearOf", Shops::rich, PlanetWorkshop::gearOf, 0, 1);
        Calls.query("gearOf", Shops::rich, PlanetWorkshop::gearOf, 1, 2);
        for (int planet = 0; planet < 6; planet++) {
            Check.same("gearOf(" + planet + ")", Shops.full().gearOf(planet), planet + 4);
        }
    }

    private static void inLine() {
        PlanetWorkshop shop = Tools.withGears(20, 60, 12);
        Tools.run(shop, "mesh 01;spring 0 200;wind 0 200");
        Tools.run(shop, "planet 0;planet 1;planet 2");
        Check.yes("areInLine(0, 1)", shop.areInLine(0, 1));
        shop.release(0, 1);
        Check.no("areInLine(0, 1)", shop.areInLine(0, 1));
        Check.no("areInLine(2, 1)", shop.areInLine(2, 1));
        Check.yes("areInLine(0, 2)", shop.areInLine(0, 2));
        shop.release(0, 2);
        Check.yes("areInLine(1, 0)", shop.areInLine(1, 0));
        View.unchanged("areInLine(0, 1)", Shops::rich, rich -> rich.areInLine(0, 1));
    }

    /** A hundred thousandth of a turn is enough to be out of line, on both sides. */
    private static void nearlyInLine() {
        PlanetWorkshop shop = QueryPromises.slow();
        shop.addPlanet(0);
        shop.addPlanet(9);
        Check.yes("areInLine(0, 1)", shop.areInLine(0, 1));
        shop.release(9, 1);
        Check.no("just behind", shop.areInLine(0, 1));
        shop.reverse(9);
        shop.release(9, 1);
        Check.yes("back again", shop.areInLine(0, 1));
        shop.release(9, 1);
        Check.no("just before", shop.areInLine(1, 0));
    }

    private static void inLineOfNoPlanets() {
        Calls.noSuchPlanet((shop, planet) -> shop.areInLine(planet, 0));
        Calls.noSuchPlanet((shop, planet) -> shop.areInLine(0, planet));
        Calls.noSuchPlanet((shop, planet) -> shop.areInLine(planet, planet));
        Calls.noSuchPlanet((shop, planet) -> shop.areInLine(1, planet));
    }

    private static void inLineWithItself() {
        View.refused("areInLine(0, 0)", Tools.ARGUMENT, Shops::rich, shop -> shop.areInLine(0, 0));
        View.refused("areInLine(1, 1)", Tools.ARGUMENT, Shops::rich, shop -> shop.areInLine(1, 1));
        Check.refused("areInLine(5, 5)", Tools.ARGUMENT, () -> Shops.full().areInLine(5, 5));
    }

    /** Per turn of gear 0, planet 0 on gear 1 makes -1/3, planet 1 on gear 2 -2/3 and 2 on 0 one. */
    private static PlanetWorkshop threePlanets() {
        PlanetWorkshop shop = Tools.withGears(20, 60, 30, 40);
        Tools.run(shop, "mesh 01;mesh 02;spring 0 200;wind 0 200");
        Tools.run(shop, "planet 1;planet 2;planet 0;planet 3");
        return shop;
    }

    private static void eclipses(Eclipse next) {
        PlanetWorkshop shop = threePlanets();
        Check.same("(0, 1, 0)", next.call(shop, 0, 1, 0), 3);
        Check.same("(1, 0, 0)", next.call(shop, 1, 0, 0), 3);
        Check.same("(0, 2, 0)", next.call(shop, 0, 2, 0), 3);
        Check.same("(0, 1, 1)", next.call(shop, 0, 1, 1), 1);
        Check.same("(0, 1, 2)", next.call(shop, 0, 1, 2), 2);
        shop.release(0, 1);
        Check.same("(0, 1, 0) a turn later", next.call(shop, 0, 1, 0), 2);
        shop.reverse(0);
        shop.release(0, 2);
        Check.same("(0, 1, 0) two turns back", next.call(shop, 0, 1, 0), 1);
        shop.setRatchet(0, true);
        shop.setRatchet(1, true);
        Check.same("(0, 1, 0) with ratchets", next.call(shop, 0, 1, 0), 1);
        View.unchanged("(0, 1, 0)", PlanetPromises::threePlanets, one -> next.call(one, 0, 1, 0));
    }

    /** The planets are in line already, but a number of turns is at least 1. */
    private static void firstTurn(Eclipse next) {
        PlanetWorkshop axle = Tools.withGears(20, 60);
        Tools.run(axle, "axle 01;planet 0;planet 1");
        Check.same("on one axle", next.call(axle, 0, 1, 0), 1);
        PlanetWorkshop mesh = Tools.withGears(20, 20);
        Tools.run(mesh, "mesh 01;planet 0;planet 1");
        Check.same("against each other", next.call(mesh, 0, 1, 1), 1);
        Check.same("ten of them", next.call(Shops.full(), 0, 5, 3), 1);
    }

    /** Gear 5 makes -1/1000 of a turn for one of gear 0, so the gap closes after 1000 turns. */
    static PlanetWorkshop thousandth() {
        PlanetWorkshop shop = Tools.withGears(6, 60, 6, 60, 6, 60);
        Tools.run(shop, "mesh 01;axle 12;mesh 23;axle 34;mesh 45");
        Tools.run(shop, "spring 0 200;wind 0 200;planet 0;planet 5");
        return shop;
    }

    private static void lastTurn(Eclipse next) {
        View.refused("after 1000 turns", Tools.MISSING, PlanetPromises::thousandth,
                shop -> next.call(shop, 0, 1, 0));
        PlanetWorkshop shop = thousandth();
        for (int due = 999; due > 990; due--) {
            shop.release(0, 1);
            Check.same("a turn later", next.call(shop, 0, 1, 0), due);
            Check.same("a turn later, the other way round", next.call(shop, 1, 0, 0), due);
        }
        shop.wind(0, 100);
        shop.reverse(0);
        shop.release(0, 9);
        Check.refused("1000 again", Tools.MISSING, () -> next.call(shop, 1, 0, 0));
        shop.release(0, 1);
        Check.same("1001 is 1", next.call(shop, 0, 1, 0), 1);
    }

    /** The planets come in line every 3200000 turns only, so there is one number of turns or none. */
    private static void longPeriod(Eclipse next) {
        PlanetWorkshop shop = Tools.withGears(6, 40, 6, 40, 6, 40, 6, 40, 6, 40);
        Tools.run(shop, "mesh 01;axle 12;mesh 23;axle 34;mesh 45;axle 56;mesh 67");
        Tools.run(shop, "axle 78;mesh 89;spring 0 200;reverse 0;planet 0;planet 9");
        Check.refused("after 3200000 turns", Tools.MISSING, () -> next.call(shop, 0, 1, 0));
        for (int turned = 10; turned <= 990; turned += 10) {
            shop.wind(0, 200);
            shop.release(0, 10);
            if (turned % 90 == 0) {
                Check.same("after " + turned, next.call(shop, 0, 1, 0), turned);
                Check.same("after " + turned, next.call(shop, 1, 0, 0), turned);
            }
        }
        shop.wind(0, 200);
        shop.release(0, 9);
        Check.same("after 999 turns", next.call(shop, 0, 1, 0), 999);
        shop.release(0, 1);
        Check.refused("after 1000 turns", Tools.MISSING, () -> next.call(shop, 0, 1, 0));
    }

    private static void eclipseOfNothing(Eclipse next) {
        Calls.noSuchPlanet((shop, planet) -> next.call(shop, planet, 1, 0));
        Calls.noSuchPlanet((shop, planet) -> next.call(shop, 1, planet, 0));
        Calls.noSuchPlanet((shop, planet) -> next.call(shop, planet, planet, 0));
        int[] wrong = {-1, 4, 10, 100, Integer.MIN_VALUE, Integer.MAX_VALUE};
        for (int key : wrong) {
            View.refused("the key " + key, Tools.INDEX, Shops::rich,
                    shop -> next.call(shop, 0, 1, key));
            Check.refused("the key " + key + " and no planet", Tools.INDEX,
                    () -> next.call(Shops.rich(), 0, 2, key));
        }
        Check.same("the last key", next.call(Shops.full(), 0, 1, 9), 1);
        Check.refused("a key too many", Tools.INDEX, () -> next.call(Shops.full(), 0, 1, 10));
        Check.refused("of an empty workshop", Tools.INDEX,
                () -> next.call(new PlanetWorkshop(), 0, 0, 0));
    }

    private static void eclipseWithItself(Eclipse next) {
        for (int key = 0; key < 4; key++) {
            final int gear = key;
            View.refused("(0, 0, " + key + ")", Tools.ARGUMENT, Shops::rich,
                    shop -> next.call(shop, 0, 0, gear));
            View.refused("(1, 1, " + key + ")", Tools.ARGUMENT, Shops::rich,
                    shop -> next.call(shop, 1, 1, gear));
        }
    }

    private static void eclipseOfTwoTrains(Eclipse next) {
        int[][] apart = {{0, 3, 0}, {3, 0, 0}, {0, 1, 3}, {1, 0, 3}, {3, 2, 3}, {2, 3, 3}};
        for (int[] one : apart) {
            View.refused("(" + one[0] + ", " + one[1] + ", " + one[2] + ")", Tools.STATE,
                    PlanetPromises::threePlanets, shop -> next.call(shop, one[0], one[1], one[2]));
        }
        Check.refused("three trains", Tools.STATE, () -> {
            PlanetWorkshop shop = Tools.withGears(20, 20, 20);
            Tools.run(shop, "planet 0;planet 1");
            next.call(shop, 0, 1, 2);
        });
        PlanetWorkshop shop = threePlanets();
        shop.mesh(3, 0);
        Check.same("one train", next.call(shop, 0, 3, 3), 3);
    }

    private static void noEclipse(Eclipse next) {
        PlanetWorkshop shop = Tools.withGears(20, 60);
        Tools.run(shop, "mesh 01;spring 0 200;wind 0 200;planet 0;planet 1");
        shop.release(0, 1);
        shop.separate(0, 1);
        shop.shareAxle(0, 1);
        Check.refused("a gap that stays", Tools.MISSING, () -> next.call(shop, 0, 1, 0));
        shop.separate(0, 1);
        shop.mesh(0, 1);
        Check.refused("a gap between the steps", Tools.MISSING, () -> next.call(shop, 0, 1, 1));
        Check.same("a gap of two steps", next.call(shop, 0, 1, 0), 2);
    }

    private static void ranks() {
        PlanetWorkshop shop = threePlanets();
        shop.release(0, 1);
        // The angles of the planets 0 to 3 in thirds of a turn: 2, 1, 0, 0.
        int[] due = {2, 3, 1, 0};
        for (int rank = 0; rank < 4; rank++) {
            Check.same("planetByAngle(" + rank + ")", shop.planetByAngle(rank), due[rank]);
        }
        shop.release(0, 1);
        // Now they are 1, 2, 0, 0.
        int[] dueLater = {2, 3, 0, 1};
        for (int rank = 0; rank < 4; rank++) {
            Check.same("planetByAngle(" + rank + ")", shop.planetByAngle(rank), dueLater[rank]);
        }
        View.unchanged("planetByAngle(1)", Shops::rich, rich -> rich.planetByAngle(1));
    }

    private static void ranksOfEqualAngles() {
        for (int rank = 0; rank < 6; rank++) {
            Check.same("planetByAngle(" + rank + ")", Shops.full().planetByAngle(rank), rank);
        }
        PlanetWorkshop shop = Tools.withGears(20, 20, 20);
        Tools.run(shop, "planet 2;planet 0;planet 1");
        for (int rank = 0; rank < 3; rank++) {
            Check.same("by index, not by gear", shop.planetByAngle(rank), rank);
        }
    }

    private static void noSuchRank() {
        Check.refused("rank 0 of no planets", Tools.MISSING,
                () -> new PlanetWorkshop().planetByAngle(0));
        View.refused("rank 2 of 2", Tools.MISSING, Shops::rich, shop -> shop.planetByAngle(2));
        View.refused("rank -1", Tools.MISSING, Shops::rich, shop -> shop.planetByAngle(-1));
        Check.same("rank 1 of 2", Shops.rich().planetByAngle(1), 0);
        for (int far : Shops.FAR) {
            Check.refused("rank " + far, Tools.MISSING, () -> Shops.full().planetByAngle(far));
        }
        Check.refused("rank 6 of 6", Tools.MISSING, () -> Shops.full().planetByAngle(6));
    }
}
