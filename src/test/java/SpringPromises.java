/** The sentences of promises 6 to 10: springs, releases and ratchets. */
final class SpringPromises {
    private static final String NO_GEAR = "Throws IndexOutOfBoundsException if there is no such gear";
    private static final String NO_SPRING = "Throws NoSuchElementException if there is no spring in it";

    private SpringPromises() {
    }

    static void tell(Sentences told) {
        tellOfSetSpring(told);
        tellOfWind(told);
        told.promise(8, "Reverses the spring in a gear: a reversed one is not reversed then, and "
                + "any other one is.", SpringPromises::reverses);
        told.promise(8, "Returns true if it is reversed after the call.", SpringPromises::isReversed);
        told.promise(8, NO_GEAR, () -> Calls.noSuchGear(PlanetWorkshop::reverse));
        told.promise(8, NO_SPRING, () -> noSpring(PlanetWorkshop::reverse));
        tellOfRelease(told);
        told.promise(10, "Gives a gear a ratchet, or takes it away.", SpringPromises::givesRatchet);
        told.promise(10, "Returns true if it had one before.", SpringPromises::hadRatchet);
        told.promise(10, NO_GEAR, () -> Calls.noSuchGear((shop, gear) -> shop.setRatchet(gear, true)));
        told.promise(10, NO_GEAR,
                () -> Calls.noSuchGear((shop, gear) -> shop.setRatchet(gear, false)));
    }

    private static void tellOfSetSpring(Sentences told) {
        told.promise(6, "Sets a spring into a gear.", SpringPromises::setsSpring);
        told.promise(6, "Returns the number of springs after the call.",
                SpringPromises::numberOfSprings);
        told.promise(6, NO_GEAR, () -> Calls.noSuchGear((shop, gear) -> shop.setSpring(gear, 20)));
        told.promise(6, "Throws IllegalArgumentException if size is not between 10 and 200",
                SpringPromises::sizes);
        told.promise(6, "Throws IllegalStateException if its train has a spring",
                SpringPromises::trainHasSpring);
    }

    private static void tellOfWind(Sentences told) {
        told.promise(7, "Winds the spring in a gear.", SpringPromises::winds);
        told.promise(7, "Returns the tension after the call.", SpringPromises::tensionAfterWind);
        told.promise(7, NO_GEAR, () -> Calls.noSuchGear((shop, gear) -> shop.wind(gear, 1)));
        told.promise(7, "Throws IllegalArgumentException if amount is not between 1 and 200",
                SpringPromises::amounts);
        told.promise(7, NO_SPRING, () -> noSpring((shop, gear) -> shop.wind(gear, 1)));
        told.promise(7, "Throws IllegalStateException if the tension would be greater than the size",
                SpringPromises::tooTense);
    }

    private static void tellOfRelease(Sentences told) {
        told.promise(9, "Releases the spring in a gear.", SpringPromises::releases);
        told.promise(9, "Returns the number of turns that the gear makes.",
                SpringPromises::turnsOfRelease);
        told.promise(9, NO_GEAR, () -> Calls.noSuchGear((shop, gear) -> shop.release(gear, 1)));
        told.promise(9, "Throws IllegalArgumentException if turns is not between 1 and 50",
                SpringPromises::turns);
        told.promise(9, NO_SPRING, () -> noSpring((shop, gear) -> shop.release(gear, 1)));
        String backwards = "Throws UnsupportedOperationException if a gear of the train has a ratchet "
                + "and would turn backwards, however many turns the gear makes";
        told.promise(9, backwards, SpringPromises::ratchetOfAnotherGear);
        told.promise(9, backwards, SpringPromises::ratchetOfItsGear);
        told.promise(9, backwards, SpringPromises::ratchetForNoTurns);
        told.promise(9, backwards, SpringPromises::ratchetInNoOnesWay);
    }

    /** A gear without a spring, alone or in the train of one that has a spring. */
    static void noSpring(Calls.OnGear method) {
        View.refused("gear 1, next to the spring", Tools.MISSING, Shops::rich,
                shop -> method.call(shop, 1));
        View.refused("gear 2, next to the spring", Tools.MISSING, Shops::rich,
                shop -> method.call(shop, 2));
        View.refused("a gear alone", Tools.MISSING, () -> Tools.withGears(20),
                shop -> method.call(shop, 0));
        View.refused("an undone spring", Tools.MISSING, () -> {
            PlanetWorkshop shop = Tools.withGears(20);
            shop.setSpring(0, 100);
            shop.undo();
            return shop;
        }, shop -> method.call(shop, 0));
        for (int gear = 0; gear < 10; gear++) {
            final int other = gear;
            if (gear != 5) {
                Check.refused("gear " + gear, Tools.MISSING,
                        () -> method.call(Shops.full(), other));
            }
        }
        Check.yes("gear 0 has one", method.call(Shops.rich(), 0) != null);
    }

    private static void setsSpring() {
        PlanetWorkshop shop = Tools.withGears(20, 60, 12);
        shop.setSpring(2, 77);
        Check.same("springSize(2)", shop.springSize(2), 77);
        Check.same("tension(2)", shop.tension(2), 0);
        Check.same("springOf(2)", shop.springOf(2), 2);
        Check.same("gear 2", Tools.gearText(shop, 2), "2:12ds0/77");
        Check.refused("springSize(0)", Tools.MISSING, () -> shop.springSize(0));
        Check.refused("springSize(1)", Tools.MISSING, () -> shop.springSize(1));
        Check.same("woundTotal()", shop.woundTotal(), 0);
    }

    private static void numberOfSprings() {
        PlanetWorkshop shop = Tools.withGears(6, 6, 6, 6, 6, 6, 6, 6, 6, 6);
        for (int springs = 1; springs <= 10; springs++) {
            Check.same("setSpring", shop.setSpring(10 - springs, 9 + springs), springs);
        }
        shop.undo();
        Check.same("after undo", shop.setSpring(0, 10), 10);
    }

    private static void sizes() {
        int[] wrong = {9, 201, 0, -1, -10, 256 + 100, Integer.MIN_VALUE, Integer.MAX_VALUE};
        for (int size : wrong) {
            View.refused("setSpring(1, " + size + ")", Tools.ARGUMENT, () -> Tools.withGears(6, 8),
                    shop -> shop.setSpring(1, size));
        }
        for (int size = 10; size <= 200; size++) {
            PlanetWorkshop shop = Tools.withGears(6);
            Check.same("setSpring(0, " + size + ")", shop.setSpring(0, size), 1);
            Check.same("springSize(0)", shop.springSize(0), size);
        }
    }

    private static void trainHasSpring() {
        for (int gear = 0; gear < 4; gear++) {
            final int member = gear;
            View.refused("a second spring", Tools.STATE, Shops::rich,
                    shop -> shop.setSpring(member, 10));
        }
        for (int gear = 0; gear < 10; gear++) {
            final int member = gear;
            Check.refused("a second spring", Tools.STATE,
                    () -> Shops.full().setSpring(member, 200));
        }
        PlanetWorkshop shop = Tools.withGears(20, 60);
        shop.mesh(0, 1);
        shop.setSpring(0, 10);
        Check.refused("setSpring(1, 10)", Tools.STATE, () -> shop.setSpring(1, 10));
        shop.separate(0, 1);
        Check.same("apart", shop.setSpring(1, 10), 2);
    }

    private static void winds() {
        PlanetWorkshop shop = Shops.rich();
        shop.wind(3, 7);
        Check.same("tension(3)", shop.tension(3), 12);
        Check.same("tension(0)", shop.tension(0), 34);
        Check.same("woundTotal()", shop.woundTotal(), 52);
        Check.same("tensionTotal()", shop.tensionTotal(), 46);
        Check.same("gear 3", Tools.gearText(shop, 3), "3:15ds12/30-");
    }

    private static void tensionAfterWind() {
        PlanetWorkshop shop = Tools.withGears(20);
        shop.setSpring(0, 200);
        int tension = 0;
        for (int amount = 1; tension + amount <= 200; amount++) {
            tension += amount;
            Check.same("wind(0, " + amount + ")", shop.wind(0, amount), tension);
        }
        shop.release(0, 50);
        Check.same("after a release", shop.wind(0, 1), tension - 99);
    }

    private static void amounts() {
        int[] wrong = {0, 201, -1, -200, 256 + 1, Integer.MIN_VALUE, Integer.MAX_VALUE};
        for (int amount : wrong) {
            View.refused("wind(0, " + amount + ")", Tools.ARGUMENT, Shops::rich,
                    shop -> shop.wind(0, amount));
        }
        for (int amount = 1; amount <= 200; amount++) {
            PlanetWorkshop shop = Tools.withGears(20);
            shop.setSpring(0, 200);
            Check.same("wind(0, " + amount + ")", shop.wind(0, amount), amount);
        }
    }

    private static void tooTense() {
        View.refused("67 for 34 of 100", Tools.STATE, Shops::rich, shop -> shop.wind(0, 67));
        View.refused("200 for 34 of 100", Tools.STATE, Shops::rich, shop -> shop.wind(0, 200));
        Check.same("66 for 34 of 100", Shops.rich().wind(0, 66), 100);
        View.refused("1 for 200 of 200", Tools.STATE, Shops::full, shop -> shop.wind(5, 1));
        PlanetWorkshop least = Tools.withGears(20);
        least.setSpring(0, 10);
        Check.refused("11 for 0 of 10", Tools.STATE, () -> least.wind(0, 11));
        Check.same("10 for 0 of 10", least.wind(0, 10), 10);
        Check.refused("1 for 10 of 10", Tools.STATE, () -> least.wind(0, 1));
    }

    private static void reverses() {
        PlanetWorkshop shop = Shops.rich();
        shop.reverse(3);
        Check.same("gear 3", Tools.gearText(shop, 3), "3:15ds5/30");
        shop.reverse(0);
        Check.same("gear 0", Tools.gearText(shop, 0), "0:20ds34/100-");
        Check.same("gear 3 again", Tools.gearText(shop, 3), "3:15ds5/30");
        shop.reverse(0);
        Check.same("gear 0", Tools.gearText(shop, 0), "0:20ds34/100");
    }

    private static void isReversed() {
        PlanetWorkshop shop = Tools.withGears(20, 60);
        shop.setSpring(0, 10);
        shop.setSpring(1, 10);
        Check.yes("reverse(0)", shop.reverse(0));
        Check.no("reverse(0) again", shop.reverse(0));
        Check.yes("reverse(1)", shop.reverse(1));
        Check.yes("reverse(0) once more", shop.reverse(0));
        shop.undo();
        Check.yes("reverse(0) after undo", shop.reverse(0));
    }

    private static void releases() {
        PlanetWorkshop shop = Shops.rich();
        shop.release(0, 1);
        Check.same("tension(0)", shop.tension(0), 31);
        Check.same("angle(0)", shop.angle(0), 0L);
        Check.same("angle(1)", shop.angle(1), 0L);
        Check.same("tension(3)", shop.tension(3), 5);
        Check.same("releaseTotal()", shop.releaseTotal(), 2);
        Check.same("wear(1)", shop.wear(1), 1);
    }

    /** 34 of tension at a friction of 3 are 11 turns. */
    private static void turnsOfRelease() {
        for (int turns = 1; turns <= 50; turns++) {
            PlanetWorkshop shop = Shops.rich();
            int made = Math.min(turns, 11);
            Check.same("release(0, " + turns + ")", shop.release(0, turns), made);
            Check.same("tension(0)", shop.tension(0), 34 - 3 * made);
        }
        PlanetWorkshop slack = Tools.withGears(20);
        slack.setSpring(0, 10);
        Check.same("without tension", slack.release(0, 50), 0);
        slack.wind(0, 1);
        Check.same("a tension below the friction", slack.release(0, 1), 0);
        slack.wind(0, 1);
        Check.same("a tension like the friction", slack.release(0, 2), 1);
        Check.same("used up", slack.release(0, 1), 0);
    }

    private static void turns() {
        int[] wrong = {0, 51, -1, -50, 256 + 1, Integer.MIN_VALUE, Integer.MAX_VALUE};
        for (int turns : wrong) {
            View.refused("release(0, " + turns + ")", Tools.ARGUMENT, Shops::rich,
                    shop -> shop.release(0, turns));
        }
        PlanetWorkshop shop = Tools.withGears(20);
        shop.setSpring(0, 200);
        shop.wind(0, 200);
        Check.same("release(0, 1)", shop.release(0, 1), 1);
        Check.same("release(0, 50)", shop.release(0, 50), 50);
        Check.same("release(0, 49)", shop.release(0, 49), 49);
    }

    private static PlanetWorkshop withRatchet(int gear, boolean isReversed) {
        PlanetWorkshop shop = Tools.withGears(20, 60, 12, 12);
        Tools.run(shop, "mesh 01;mesh 12;spring 0 200;wind 0 200");
        shop.setRatchet(gear, true);
        if (isReversed) {
            shop.reverse(0);
        }
        return shop;
    }

    private static void ratchetOfAnotherGear() {
        View.refused("gear 1 backwards", Tools.UNSUPPORTED, () -> withRatchet(1, false),
                shop -> shop.release(0, 1));
        View.refused("gear 1 backwards, 50 turns", Tools.UNSUPPORTED, () -> withRatchet(1, false),
                shop -> shop.release(0, 50));
        View.refused("gear 2 backwards", Tools.UNSUPPORTED, () -> withRatchet(2, true),
                shop -> shop.release(0, 1));
        Check.same("gear 1 forwards", withRatchet(1, true).release(0, 1), 1);
        Check.same("gear 2 forwards", withRatchet(2, false).release(0, 1), 1);
    }

    private static void ratchetOfItsGear() {
        View.refused("its gear backwards", Tools.UNSUPPORTED, () -> withRatchet(0, true),
                shop -> shop.release(0, 1));
        Check.same("its gear forwards", withRatchet(0, false).release(0, 1), 1);
        PlanetWorkshop alone = Tools.withGears(20);
        Tools.run(alone, "spring 0 20;wind 0 20;ratchet 0");
        Check.same("a gear alone", alone.release(0, 1), 1);
        alone.reverse(0);
        Check.refused("a gear alone, backwards", Tools.UNSUPPORTED, () -> alone.release(0, 1));
    }

    private static void ratchetForNoTurns() {
        PlanetWorkshop shop = Tools.withGears(20, 60);
        Tools.run(shop, "mesh 01;spring 0 20;ratchet 1");
        Check.refused("without tension", Tools.UNSUPPORTED, () -> shop.release(0, 1));
        shop.wind(0, 3);
        Check.refused("a tension below the friction", Tools.UNSUPPORTED, () -> shop.release(0, 50));
        shop.setRatchet(1, false);
        Check.same("no ratchet, no turns", shop.release(0, 1), 0);
        shop.setRatchet(1, true);
        shop.reverse(0);
        Check.same("the ratchet forwards, no turns", shop.release(0, 1), 0);
    }

    private static void ratchetInNoOnesWay() {
        Check.same("in another train", withRatchet(3, false).release(0, 1), 1);
        Check.same("in another train, reversed", withRatchet(3, true).release(0, 1), 1);
        PlanetWorkshop shop = withRatchet(1, false);
        Check.refused("in its train", Tools.UNSUPPORTED, () -> shop.release(0, 1));
        shop.separate(0, 1);
        Check.same("no longer in its train", shop.release(0, 1), 1);
        Check.same("angle(1)", shop.angle(1), 0L);
    }

    private static void givesRatchet() {
        PlanetWorkshop shop = Tools.withGears(20, 60, 12);
        shop.setRatchet(1, true);
        Check.no("hasRatchet(0)", shop.hasRatchet(0));
        Check.yes("hasRatchet(1)", shop.hasRatchet(1));
        Check.no("hasRatchet(2)", shop.hasRatchet(2));
        shop.setRatchet(1, true);
        Check.yes("hasRatchet(1) still", shop.hasRatchet(1));
        shop.setRatchet(2, false);
        Check.no("hasRatchet(2) still", shop.hasRatchet(2));
        shop.setRatchet(1, false);
        Check.no("hasRatchet(1) no longer", shop.hasRatchet(1));
    }

    private static void hadRatchet() {
        PlanetWorkshop shop = Tools.withGears(20, 60);
        Check.no("setRatchet(1, false)", shop.setRatchet(1, false));
        Check.no("setRatchet(1, true)", shop.setRatchet(1, true));
        Check.yes("setRatchet(1, true) again", shop.setRatchet(1, true));
        Check.yes("setRatchet(1, false)", shop.setRatchet(1, false));
        Check.no("setRatchet(1, false) again", shop.setRatchet(1, false));
        Check.no("setRatchet(0, true)", shop.setRatchet(0, true));
    }
}
