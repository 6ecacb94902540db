import java.util.function.Supplier;

/** Refusals that many methods share: an index that is not there, for one argument or for two. */
final class Calls {
    interface OnGear {
        Object call(PlanetWorkshop shop, int gear);
    }

    interface OnTwo {
        Object call(PlanetWorkshop shop, int one, int other);
    }

    private Calls() {
    }

    /** The first index that is there and the last one are taken, the ones beside them are not. */
    static void noSuchGear(OnGear method) {
        for (Supplier<PlanetWorkshop> build : Shops.all()) {
            int gears = build.get().gearCount();
            View.refused("the index " + gears, Tools.INDEX, build, shop -> method.call(shop, gears));
            View.refused("the index -1", Tools.INDEX, build, shop -> method.call(shop, -1));
            for (int far : Shops.FAR) {
                Check.refused("the index " + far, Tools.INDEX, () -> method.call(build.get(), far));
            }
            for (int gear = 0; gear < gears; gear++) {
                taken("the index " + gear, method, build.get(), gear);
            }
        }
    }

    private static void taken(String name, OnGear method, PlanetWorkshop shop, int gear) {
        boolean isTaken = true;
        try {
            method.call(shop, gear);
        } catch (IndexOutOfBoundsException e) {
            isTaken = false;
        } catch (RuntimeException e) {
            isTaken = e.getClass() != NullPointerException.class;
        }
        Check.yes(name + " is there", isTaken);
    }

    static void noSuchGearOfTwo(OnTwo method) {
        noSuchGear((shop, gear) -> method.call(shop, gear, 0));
        noSuchGear((shop, gear) -> method.call(shop, gear, gear));
        for (Supplier<PlanetWorkshop> build : Shops.all()) {
            int gears = build.get().gearCount();
            for (int gear = 0; gear < gears; gear++) {
                final int there = gear;
                View.refused("the second index " + gears, Tools.INDEX, build,
                        shop -> method.call(shop, there, gears));
                View.refused("the second index -1", Tools.INDEX, build,
                        shop -> method.call(shop, there, -1));
            }
            for (int far : Shops.FAR) {
                Check.refused("the second index " + far, Tools.INDEX,
                        () -> method.call(build.get(), 0, far));
            }
            for (int gear = 0; gear < gears; gear++) {
                taken("the second index " + gear, (shop, other) -> method.call(shop, 0, other),
                        build.get(), gear);
            }
        }
    }

    static void noSuchPlanet(OnGear method) {
        for (Supplier<PlanetWorkshop> build : Shops.all()) {
            int planets = build.get().planetCount();
            View.refused("the planet " + planets, Tools.INDEX, build,
                    shop -> method.call(shop, planets));
            View.refused("the planet -1", Tools.INDEX, build, shop -> method.call(shop, -1));
            for (int far : Shops.FAR) {
                Check.refused("the planet " + far, Tools.INDEX, () -> method.call(build.get(), far));
            }
            for (int planet = 0; planet < planets; planet++) {
                taken("the planet " + planet, method, build.get(), planet);
            }
        }
    }

    /** A query answers, and nothing that can be seen is different then. */
    static void query(String name, Supplier<PlanetWorkshop> build, OnGear method, int gear,
            Object due) {
        Check.same(name + "(" + gear + ")", method.call(build.get(), gear), due);
        View.unchanged(name + "(" + gear + ")", build, shop -> method.call(shop, gear));
    }
}
