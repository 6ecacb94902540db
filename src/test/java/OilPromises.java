/** The sentences of promises 11 to 13: oil and new planets. */
final class OilPromises {
    private static final String NO_GEAR = "Throws IndexOutOfBoundsException if there is no such gear";
    private static final String RETURNS_DROPS = "Returns the number of drops after the call.";

    private OilPromises() {
    }

    static void tell(Sentences told) {
        told.promise(11, "Oils a dry gear.", OilPromises::oils);
        told.promise(11, RETURNS_DROPS, OilPromises::dropsAfterOil);
        told.promise(11, NO_GEAR, () -> Calls.noSuchGear(PlanetWorkshop::oil));
        told.promise(11, "Throws IllegalStateException if it is oiled", OilPromises::oilOfOiled);
        told.promise(11, "Throws UnsupportedOperationException if there are no drops",
                OilPromises::oilWithoutDrops);
        told.promise(12, "Buys drops of oil.", OilPromises::buys);
        told.promise(12, RETURNS_DROPS, OilPromises::dropsAfterBuying);
        told.promise(12, "Throws IllegalArgumentException if drops is not between 1 and 50",
                OilPromises::wrongDrops);
        told.promise(12, "Throws IllegalStateException if there would be more than 99 drops",
                OilPromises::tooManyDrops);
        told.promise(13, "Adds a planet.", OilPromises::addsPlanet);
        told.promise(13, "Returns the index of the planet.", OilPromises::indexOfPlanet);
        told.promise(13, NO_GEAR, () -> Calls.noSuchGear(PlanetWorkshop::addPlanet));
        String state = "Throws IllegalStateException if there are 6 planets, or the gear carries one";
        told.promise(13, state, OilPromises::sixPlanets);
        told.promise(13, state, OilPromises::carriesOne);
    }

    private static void oils() {
        PlanetWorkshop shop = Tools.withGears(20, 60, 12);
        shop.oil(1);
        Check.yes("isDry(0)", shop.isDry(0));
        Check.no("isDry(1)", shop.isDry(1));
        Check.yes("isDry(2)", shop.isDry(2));
        Check.same("wear(1)", shop.wear(1), 0);
    }

    private static void dropsAfterOil() {
        PlanetWorkshop shop = Tools.withGears(6, 6, 6, 6, 6, 6, 6, 6, 6, 6);
        for (int gear = 0; gear < 10; gear++) {
            Check.same("oil(" + gear + ")", shop.oil(gear), 11 - gear);
        }
        Check.same("the last drop", lastDrop().oil(1), 0);
        Check.same("of 99 drops", Shops.full().oil(9), 98);
    }

    private static PlanetWorkshop lastDrop() {
        PlanetWorkshop shop = Shops.withoutDrops();
        shop.buyOil(1);
        return shop;
    }

    private static void oilOfOiled() {
        View.refused("oil(1)", Tools.STATE, Shops::rich, shop -> shop.oil(1));
        View.refused("oil(1) without drops", Tools.STATE, () -> {
            PlanetWorkshop shop = lastDrop();
            shop.oil(1);
            return shop;
        }, shop -> shop.oil(1));
        PlanetWorkshop shop = Tools.withGears(20);
        shop.oil(0);
        shop.setSpring(0, 60);
        shop.wind(0, 60);
        shop.release(0, 29);
        Check.refused("after 29 turns", Tools.STATE, () -> shop.oil(0));
        shop.release(0, 1);
        Check.same("after 30 turns", shop.oil(0), 10);
        shop.undo();
        shop.undo();
        Check.refused("after undo", Tools.STATE, () -> shop.oil(0));
    }

    private static void oilWithoutDrops() {
        Check.same("drops()", Shops.withoutDrops().drops(), 0);
        for (int gear = 0; gear < 2; gear++) {
            final int dry = gear;
            View.refused("oil(" + gear + ")", Tools.UNSUPPORTED, Shops::withoutDrops,
                    shop -> shop.oil(dry));
        }
        PlanetWorkshop shop = lastDrop();
        Check.same("the last drop", shop.oil(0), 0);
        Check.refused("none is left", Tools.UNSUPPORTED, () -> shop.oil(1));
    }

    private static void buys() {
        PlanetWorkshop shop = new PlanetWorkshop();
        shop.buyOil(5);
        Check.same("drops()", shop.drops(), 17);
        PlanetWorkshop none = Shops.withoutDrops();
        none.buyOil(50);
        Check.same("drops()", none.drops(), 50);
        Check.same("oil(1)", none.oil(1), 49);
    }

    private static void dropsAfterBuying() {
        PlanetWorkshop shop = new PlanetWorkshop();
        int drops = 12;
        for (int more = 1; drops + more <= 99; more++) {
            drops += more;
            Check.same("buyOil(" + more + ")", shop.buyOil(more), drops);
        }
        Check.same("buyOil up to 99", shop.buyOil(99 - drops), 99);
        Check.same("buyOil with no drops", Shops.withoutDrops().buyOil(1), 1);
    }

    private static void wrongDrops() {
        int[] wrong = {0, 51, -1, -50, 87, 256 + 1, Integer.MIN_VALUE, Integer.MAX_VALUE};
        for (int drops : wrong) {
            View.refused("buyOil(" + drops + ")", Tools.ARGUMENT, Shops::rich,
                    shop -> shop.buyOil(drops));
            Check.refused("buyOil(" + drops + ") with 99 drops", Tools.ARGUMENT,
                    () -> Shops.full().buyOil(drops));
        }
        for (int drops = 1; drops <= 50; drops++) {
            Check.same("buyOil(" + drops + ")", new PlanetWorkshop().buyOil(drops), 12 + drops);
        }
    }

    private static void tooManyDrops() {
        for (int more = 1; more <= 50; more++) {
            final int drops = more;
            Check.refused("with 99 drops", Tools.STATE, () -> Shops.full().buyOil(drops));
        }
        View.refused("with 99 drops", Tools.STATE, Shops::full, shop -> shop.buyOil(1));
        for (int first = 38; first <= 50; first++) {
            PlanetWorkshop shop = new PlanetWorkshop();
            shop.buyOil(first);
            final int limit = 99 - 12 - first;
            Check.refused("one more than 99", Tools.STATE, () -> shop.buyOil(limit + 1));
            Check.same("drops()", shop.drops(), 12 + first);
            Check.same("just 99", shop.buyOil(limit), 99);
        }
        PlanetWorkshop shop = Shops.full();
        shop.oil(0);
        Check.refused("two for 98 drops", Tools.STATE, () -> shop.buyOil(2));
        Check.same("one for 98 drops", shop.buyOil(1), 99);
    }

    private static void addsPlanet() {
        PlanetWorkshop shop = Tools.withGears(20, 60, 12);
        shop.addPlanet(1);
        Check.same("planetCount()", shop.planetCount(), 1);
        Check.same("gearOf(0)", shop.gearOf(0), 1);
        Check.same("gear 1", Tools.trainText(shop, 1), "1*");
        Check.same("gear 0", Tools.trainText(shop, 0), "0");
    }

    private static void indexOfPlanet() {
        PlanetWorkshop shop = Tools.withGears(6, 6, 6, 6, 6, 6, 6);
        for (int planet = 0; planet < 6; planet++) {
            Check.same("addPlanet", shop.addPlanet(6 - planet), planet);
        }
        shop.undo();
        Check.same("after undo", shop.addPlanet(0), 5);
    }

    private static void sixPlanets() {
        for (int gear = 0; gear < 10; gear++) {
            final int place = gear;
            Check.refused("addPlanet(" + gear + ")", Tools.STATE,
                    () -> Shops.full().addPlanet(place));
        }
        View.refused("a seventh planet", Tools.STATE, Shops::full, shop -> shop.addPlanet(0));
        PlanetWorkshop shop = Shops.full();
        shop.undo();
        shop.undo();
        shop.undo();
        shop.undo();
        shop.undo();
        Check.same("planetCount() after undo", shop.planetCount(), 5);
        Check.same("a sixth planet", shop.addPlanet(0), 5);
        Check.refused("a seventh planet", Tools.STATE, () -> shop.addPlanet(1));
    }

    private static void carriesOne() {
        View.refused("addPlanet(1)", Tools.STATE, Shops::rich, shop -> shop.addPlanet(1));
        View.refused("addPlanet(2)", Tools.STATE, Shops::rich, shop -> shop.addPlanet(2));
        Check.same("addPlanet(0)", Shops.rich().addPlanet(0), 2);
        Check.same("addPlanet(3)", Shops.rich().addPlanet(3), 2);
        PlanetWorkshop shop = Tools.withGears(20, 60);
        shop.addPlanet(0);
        Check.refused("addPlanet(0)", Tools.STATE, () -> shop.addPlanet(0));
        shop.undo();
        Check.same("after undo", shop.addPlanet(0), 0);
    }
}
