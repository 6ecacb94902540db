/** The terms about springs and oil. */
final class SpringTerms {
    private SpringTerms() {
    }

    static void tell(Sentences told) {
        told.term("A spring can be set into a gear; a train has at most one spring.",
                SpringTerms::oneSpring);
        told.term("A spring has a size from 10 to 200 and a tension from 0 to its size, and is reversed "
                + "or not; initially the tension is 0 and it is not reversed.", SpringTerms::newSpring);
        told.term("The friction of a train is the number of its gears plus the number of its dry gears.",
                SpringTerms::friction);
        told.term("When a spring is released for a number of turns, its gear makes that many turns, but "
                + "at most as many as its tension divided by the friction of its train; it turns "
                + "forwards, or backwards if the spring is reversed, and all gears of its train turn "
                + "with it.", SpringTerms::releases);
        told.term("The tension decreases by the friction multiplied by the turns.",
                SpringTerms::tensionDecreases);
        told.term("A gear with a ratchet cannot turn backwards.", SpringTerms::ratchets);
        told.term("A gear is dry or oiled, initially dry.", SpringTerms::initiallyDry);
        told.term("To oil a dry gear takes one of the drops of oil, of which there are 12 at first and "
                + "at most 99.", SpringTerms::dropsOfOil);
        String wear = "An oiled gear has a wear in units, which is 0 when it is oiled and increases by "
                + "the units by which the gear turns, in either direction; after a release, every oiled "
                + "gear whose wear is 30 turns or more becomes dry.";
        told.term(wear, SpringTerms::wearIncreases);
        told.term(wear, SpringTerms::thirtyTurns);
        told.term(wear, SpringTerms::nearlyThirtyTurns);
        told.term(wear, SpringTerms::afterRelease);
    }

    /** Springs in all trains, until they are joined. */
    private static void oneSpring() {
        PlanetWorkshop shop = Tools.withGears(20, 20, 20, 20);
        Check.same("a first spring", shop.setSpring(0, 10), 1);
        Check.refused("a second in its gear", Tools.STATE, () -> shop.setSpring(0, 10));
        shop.mesh(0, 1);
        Check.refused("a second in its train", Tools.STATE, () -> shop.setSpring(1, 10));
        Check.same("a spring of another train", shop.setSpring(2, 10), 2);
        Check.refused("a mesh of both trains", Tools.STATE, () -> shop.mesh(1, 2));
        Check.refused("an axle of both trains", Tools.STATE, () -> shop.shareAxle(2, 0));
        Check.same("a mesh with a train without one", shop.mesh(3, 2), 2);
        Check.refused("a mesh of both trains", Tools.STATE, () -> shop.mesh(3, 1));
        shop.separate(3, 2);
        Check.same("a mesh with the gear alone", shop.mesh(3, 1), 3);
    }

    private static void newSpring() {
        int[] sizes = {10, 11, 199, 200};
        for (int size : sizes) {
            PlanetWorkshop shop = Tools.withGears(20);
            shop.setSpring(0, size);
            Check.same("springSize(0)", shop.springSize(0), size);
            Check.same("tension(0)", shop.tension(0), 0);
            Check.same("gear 0", Tools.gearText(shop, 0), "0:20ds0/" + size);
            Check.yes("reverse(0)", shop.reverse(0));
            Check.same("up to its size", shop.wind(0, size), size);
            Check.refused("not beyond", Tools.STATE, () -> shop.wind(0, 1));
        }
        int[] wrong = {9, 201};
        for (int size : wrong) {
            Check.refused("size " + size, Tools.ARGUMENT,
                    () -> Tools.withGears(20).setSpring(0, size));
        }
    }

    private static void friction() {
        PlanetWorkshop shop = Tools.withGears(6, 6, 6, 6, 6, 6, 6, 6, 6, 6);
        for (int gears = 1; gears <= 10; gears++) {
            Check.same("friction of dry gears", shop.friction(gears - 1), 2 * gears);
            Check.same("the same for each", shop.friction(0), 2 * gears);
            if (gears < 10) {
                Check.same("a gear alone", shop.friction(gears), 2);
                shop.mesh(gears - 1, gears);
            }
        }
        for (int oiled = 1; oiled <= 10; oiled++) {
            shop.oil(10 - oiled);
            Check.same("friction of oiled gears", shop.friction(5), 20 - oiled);
        }
    }

    private static void releases() {
        PlanetWorkshop shop = Tools.withGears(20, 60, 15, 12);
        Tools.run(shop, "mesh 01;axle 12;spring 1 100;wind 1 100");
        Check.same("2 turns", shop.release(1, 2), 2);
        Check.same("angle(0)", shop.angle(0), 0L);
        Check.same("angle(1)", shop.angle(1), 0L);
        shop.separate(0, 1);
        shop.mesh(3, 2);
        Check.same("a turn", shop.release(1, 1), 1);
        Check.same("angle(3) after 5 / 4 backwards", shop.angle(3), Tools.TURN / 4 * 3);
        Check.same("angle(0) of another train", shop.angle(0), 0L);
        shop.reverse(1);
        Check.same("2 turns backwards", shop.release(1, 2), 2);
        Check.same("angle(3) after 10 / 4 forwards", shop.angle(3), Tools.TURN / 4);
        Check.same("70 / 6 turns", shop.release(1, 50), 11);
        Check.same("angle(3) after 55 / 4 forwards", shop.angle(3), 0L);
        Check.same("tension(1)", shop.tension(1), 4);
        Check.same("no turn", shop.release(1, 50), 0);
        PlanetWorkshop alone = Tools.withGears(20);
        Tools.run(alone, "oil 0;spring 0 200;wind 0 200");
        Check.same("not more than asked for", alone.release(0, 29), 29);
        Check.same("still oiled", alone.release(0, 50), 50);
        Check.same("dry", alone.release(0, 50), 50);
        Check.same("21 / 2 turns", alone.release(0, 50), 10);
    }

    private static void tensionDecreases() {
        for (int oiled = 0; oiled <= 5; oiled++) {
            PlanetWorkshop shop = Tools.withGears(20, 60, 20, 60, 20, 6);
            Tools.run(shop, "mesh 01;mesh 12;mesh 23;mesh 34");
            Tools.run(shop, "spring 2 200;wind 2 200;oil 5");
            for (int gear = 0; gear < oiled; gear++) {
                shop.oil(gear);
            }
            int friction = 10 - oiled;
            Check.same("release(2, 7)", shop.release(2, 7), 7);
            Check.same("tension(2)", shop.tension(2), 200 - 7 * friction);
            Check.same("tensionByAccounts()", shop.tensionByAccounts(), 200 - 7 * friction);
            Check.same("release(2, 50)", shop.release(2, 50), (200 - 7 * friction) / friction);
            Check.same("tension(2)", shop.tension(2), 200 % friction);
        }
        PlanetWorkshop down = Tools.withGears(20);
        Tools.run(down, "spring 0 10;wind 0 10;reverse 0;run 0 5");
        Check.same("to 0, backwards", down.tension(0), 0);
    }

    private static void ratchets() {
        PlanetWorkshop shop = Tools.withGears(20, 60);
        Tools.run(shop, "mesh 01;spring 0 200;wind 0 200;run 0 1;ratchet 1");
        Check.refused("backwards", Tools.UNSUPPORTED, () -> shop.release(0, 1));
        Check.same("angle(1)", shop.angle(1), Tools.TURN / 3 * 2);
        shop.reverse(0);
        Check.same("forwards", shop.release(0, 2), 2);
        Check.same("angle(1)", shop.angle(1), Tools.TURN / 3);
        shop.setRatchet(0, true);
        Check.refused("its own gear backwards", Tools.UNSUPPORTED, () -> shop.release(0, 1));
        shop.reverse(0);
        Check.refused("the other one backwards", Tools.UNSUPPORTED, () -> shop.release(0, 1));
        shop.setRatchet(1, false);
        Check.same("its own gear forwards", shop.release(0, 1), 1);
        Check.same("angle(1)", shop.angle(1), 0L);
    }

    private static void initiallyDry() {
        PlanetWorkshop shop = Tools.withGears(6, 8);
        Check.yes("isDry(0)", shop.isDry(0));
        Check.refused("wear(0)", Tools.MISSING, () -> shop.wear(0));
        shop.oil(0);
        Check.no("isDry(0)", shop.isDry(0));
        Check.same("wear(0)", shop.wear(0), 0);
        Check.yes("isDry(1)", shop.isDry(1));
    }

    private static void dropsOfOil() {
        PlanetWorkshop shop = Tools.withGears(6, 6, 6, 6, 6, 6, 6, 6, 6, 6);
        Check.same("at first", shop.drops(), 12);
        for (int gear = 0; gear < 10; gear++) {
            shop.oil(gear);
        }
        Check.same("after 10 gears", shop.drops(), 2);
        Tools.run(shop, "spring 0 200;wind 0 200;run 0 30;oil 0;run 0 30");
        Check.same("the last drop", shop.oil(0), 0);
        Check.refused("it is oiled", Tools.STATE, () -> shop.oil(0));
        shop.release(0, 30);
        Check.refused("there are none", Tools.UNSUPPORTED, () -> shop.oil(0));
        Check.same("drops()", shop.drops(), 0);
        Check.same("buyOil(50)", shop.buyOil(50), 50);
        Check.refused("buyOil(50)", Tools.STATE, () -> shop.buyOil(50));
        Check.same("buyOil(49)", shop.buyOil(49), 99);
        Check.refused("buyOil(1)", Tools.STATE, () -> shop.buyOil(1));
        Check.same("oil(0)", shop.oil(0), 98);
    }

    /** Gear 1 makes 3 / 4 of a turn for each turn of gear 0. */
    private static void wearIncreases() {
        PlanetWorkshop shop = Tools.withGears(30, 40, 6);
        Tools.run(shop, "mesh 01;spring 0 200;wind 0 200;oil 1;oil 2");
        int[] turns = {1, 1, 1, 1, 3, 2, 7};
        int made = 0;
        for (int more : turns) {
            shop.release(0, more);
            shop.reverse(0);
            made += more;
            Check.same("wear(1) after " + made, shop.wear(1), made * 3 / 4);
            Check.same("wear(2) of another train", shop.wear(2), 0);
        }
        shop.oil(0);
        Check.same("wear(0) when it is oiled", shop.wear(0), 0);
        shop.release(0, 5);
        Check.same("wear(0)", shop.wear(0), 5);
        Check.same("wear(1)", shop.wear(1), 15);
    }

    private static PlanetWorkshop oiled(int turns, boolean isReversed) {
        PlanetWorkshop shop = Tools.withGears(20, 20);
        Tools.run(shop, "mesh 01;spring 0 200;wind 0 200;oil 0;oil 1");
        if (isReversed) {
            shop.reverse(0);
        }
        shop.release(0, turns);
        return shop;
    }

    private static void thirtyTurns() {
        for (int turns = 1; turns <= 50; turns++) {
            for (int gear = 0; gear < 2; gear++) {
                Check.same("isDry after " + turns, oiled(turns, false).isDry(gear), turns >= 30);
                Check.same("isDry after " + turns, oiled(turns, true).isDry(gear), turns >= 30);
            }
        }
        Check.same("wear after 29", oiled(29, false).wear(1), 29);
        Check.refused("wear after 30", Tools.MISSING, () -> oiled(30, true).wear(1));
        PlanetWorkshop shop = oiled(29, false);
        shop.reverse(0);
        shop.release(0, 1);
        Check.yes("29 forwards and 1 backwards", shop.isDry(0));
        Check.yes("29 backwards and 1 forwards", shop.isDry(1));
    }

    /** 120 turns of gear 1 are 30 turns and 119 are a quarter less. */
    private static void nearlyThirtyTurns() {
        PlanetWorkshop shop = Tools.withGears(60, 15);
        Tools.run(shop, "mesh 01;spring 1 200;wind 1 200;oil 0;run 1 50");
        shop.wind(1, 150);
        shop.release(1, 50);
        shop.release(1, 16);
        shop.wind(1, 100);
        shop.release(1, 3);
        Check.same("wear(0) after 119 / 4", shop.wear(0), 29);
        Check.no("isDry(0)", shop.isDry(0));
        shop.release(1, 1);
        Check.yes("isDry(0) after 120 / 4", shop.isDry(0));
        PlanetWorkshop slow = QueryPromises.slow();
        slow.oil(0);
        slow.release(9, 9);
        Check.same("wear(0) after 9 / 100000", slow.wear(0), 0);
        Check.no("isDry(0)", slow.isDry(0));
    }

    /** The friction is that before the release, whatever becomes dry in it. */
    private static void afterRelease() {
        PlanetWorkshop shop = Tools.withGears(20, 6, 60);
        Tools.run(shop, "mesh 01;mesh 12;spring 0 200;wind 0 200;oil 0;oil 1;oil 2");
        Check.same("ten turns", shop.release(0, 10), 10);
        Check.same("tension(0)", shop.tension(0), 170);
        Check.no("isDry(0)", shop.isDry(0));
        Check.yes("isDry(1) after 100 / 3 turns", shop.isDry(1));
        Check.same("wear(2) after 10 / 3 turns", shop.wear(2), 3);
        Check.same("friction(0)", shop.friction(0), 4);
        Check.same("20 turns", shop.release(0, 20), 20);
        Check.same("tension(0)", shop.tension(0), 90);
        Check.yes("isDry(0) after 30 turns", shop.isDry(0));
        Check.same("wear(2)", shop.wear(2), 10);
        shop.oil(1);
        Check.same("wear(1) starts anew", shop.wear(1), 0);
        shop.release(0, 1);
        Check.same("wear(1) after 10 / 3 turns", shop.wear(1), 3);
    }
}
