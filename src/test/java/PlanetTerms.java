/** The terms about planets, eclipses and ratios. */
final class PlanetTerms {
    private PlanetTerms() {
    }

    static void tell(Sentences told) {
        told.term("At most 6 planets have the indices 0 to n - 1 in the order in which they were "
                + "added.", PlanetTerms::sixPlanets);
        told.term("A planet is carried by a gear, and no gear carries two planets.",
                PlanetTerms::onePlanetAGear);
        told.term("Two different planets are in line if the angles of their gears are equal.",
                PlanetTerms::inLine);
        String eclipse = "The next eclipse of two planets whose gears are in the same train, for a gear "
                + "of this train that is called the key, is the smallest number of whole turns from 1 to "
                + "999 after which the planets would be in line if the key made these turns forwards "
                + "from now on, whatever springs and ratchets there are.";
        told.term(eclipse, PlanetTerms::smallestNumber);
        told.term(eclipse, PlanetTerms::oneTo999);
        told.term(eclipse, PlanetTerms::whateverSprings);
        told.term("A ratio a / b of two numbers from 1 to 60 can be made with 1 pair of gears if two "
                + "different gears have p and q teeth with p / q = a / b.", PlanetTerms::onePair);
        told.term("It can be made with 2 pairs if four different gears have p, q, r and s teeth with (p "
                + "/ q) * (r / s) = a / b.", PlanetTerms::twoPairs);
        told.term("Joints do not matter for this.", PlanetTerms::jointsDoNotMatter);
    }

    private static void sixPlanets() {
        PlanetWorkshop shop = Tools.withGears(6, 6, 6, 6, 6, 6, 6);
        int[] carriers = {3, 0, 6, 1, 5, 2};
        for (int planet = 0; planet < 6; planet++) {
            Check.same("addPlanet", shop.addPlanet(carriers[planet]), planet);
        }
        for (int planet = 0; planet < 6; planet++) {
            Check.same("gearOf(" + planet + ")", shop.gearOf(planet), carriers[planet]);
        }
        Check.refused("a seventh", Tools.STATE, () -> shop.addPlanet(4));
        Check.refused("gearOf(6)", Tools.INDEX, () -> shop.gearOf(6));
        Check.refused("gearOf(-1)", Tools.INDEX, () -> shop.gearOf(-1));
        Check.same("planetCount()", shop.planetCount(), 6);
    }

    private static void onePlanetAGear() {
        PlanetWorkshop shop = Tools.withGears(6, 6, 6);
        for (int gear = 2; gear >= 0; gear--) {
            final int carrier = gear;
            Check.same("addPlanet", shop.addPlanet(gear), 2 - gear);
            for (int again = 2; again >= gear; again--) {
                final int taken = again;
                Check.refused("addPlanet again", Tools.STATE, () -> shop.addPlanet(taken));
            }
            Check.same("gearOf", shop.gearOf(2 - carrier), carrier);
        }
    }

    private static void inLine() {
        PlanetWorkshop shop = Tools.withGears(20, 40, 24, 40);
        Tools.run(shop, "mesh 01;mesh 02;spring 0 200;wind 0 200");
        Tools.run(shop, "planet 1;planet 2;planet 3");
        Check.yes("both at 0", shop.areInLine(0, 1));
        shop.release(0, 1);
        // Gear 1 stands at 1/2, gear 2 at 1/6, gear 3 at 0.
        Check.no("1/2 and 1/6", shop.areInLine(0, 1));
        Check.no("1/6 and 1/2", shop.areInLine(1, 0));
        Check.no("1/2 and 0", shop.areInLine(0, 2));
        shop.release(0, 2);
        Check.yes("1/2 and 1/2", shop.areInLine(0, 1));
        Check.no("1/2 and 0", shop.areInLine(2, 1));
        shop.release(0, 3);
        Check.yes("0 and 0, in two trains", shop.areInLine(0, 2));
        Check.yes("0 and 0, in one train", shop.areInLine(1, 0));
    }

    private static void eclipse(PlanetWorkshop shop, int key, int due) {
        if (due == 0) {
            Check.refused("nextEclipse", Tools.MISSING, () -> shop.nextEclipse(0, 1, key));
            Check.refused("nextEclipseByTurns", Tools.MISSING,
                    () -> shop.nextEclipseByTurns(0, 1, key));
        } else {
            Check.same("nextEclipse", shop.nextEclipse(0, 1, key), due);
            Check.same("nextEclipseByTurns", shop.nextEclipseByTurns(0, 1, key), due);
            Check.same("the other way round", shop.nextEclipse(1, 0, key), due);
        }
    }

    /** Gear 0 makes a turn when gear 2 makes 3 / 10, so their gap changes by 7 / 10 of a turn. */
    private static void smallestNumber() {
        PlanetWorkshop shop = Tools.withGears(6, 60, 20);
        Tools.run(shop, "mesh 01;mesh 12;spring 0 200;wind 0 200;planet 0;planet 2");
        int[] due = {10, 9, 8, 7, 6, 5, 4, 3, 2, 1, 10, 9};
        for (int turns : due) {
            eclipse(shop, 0, turns);
            shop.release(0, 1);
        }
        shop.reverse(0);
        shop.release(0, 2);
        eclipse(shop, 0, 10);
        eclipse(shop, 1, 1);
        eclipse(shop, 2, 3);
        shop.release(0, 1);
        eclipse(shop, 0, 1);
        eclipse(shop, 1, 0);
    }

    private static void oneTo999() {
        PlanetWorkshop shop = PlanetPromises.thousandth();
        eclipse(shop, 0, 0);
        shop.release(0, 1);
        eclipse(shop, 0, 999);
        shop.release(0, 1);
        eclipse(shop, 0, 998);
        shop.reverse(0);
        shop.release(0, 2);
        eclipse(shop, 0, 0);
        shop.release(0, 1);
        eclipse(shop, 0, 1);
        shop.release(0, 1);
        eclipse(shop, 0, 2);
        shop.reverse(0);
        shop.release(0, 2);
        eclipse(shop, 0, 0);
        eclipse(shop, 2, 100);
    }

    private static void whateverSprings() {
        PlanetWorkshop shop = Tools.withGears(20, 60);
        Tools.run(shop, "mesh 01;planet 0;planet 1");
        eclipse(shop, 0, 3);
        Tools.run(shop, "ratchet 0;ratchet 1");
        eclipse(shop, 0, 3);
        Tools.run(shop, "spring 1 50");
        eclipse(shop, 0, 3);
        Tools.run(shop, "wind 1 50;reverse 1");
        eclipse(shop, 0, 3);
        eclipse(shop, 1, 1);
    }

    private static void pairs(PlanetWorkshop shop, int a, int b, int due) {
        if (due == 0) {
            Check.refused("fewestPairs", Tools.MISSING, () -> shop.fewestPairs(a, b));
            Check.refused("fewestPairsByTable", Tools.MISSING, () -> shop.fewestPairsByTable(a, b));
        } else {
            Check.same("fewestPairs", shop.fewestPairs(a, b), due);
            Check.same("fewestPairsByTable", shop.fewestPairsByTable(a, b), due);
        }
    }

    private static void onePair() {
        PlanetWorkshop shop = Tools.withGears(8, 20);
        pairs(shop, 2, 5, 1);
        pairs(shop, 5, 2, 1);
        pairs(shop, 24, 60, 1);
        pairs(shop, 60, 24, 1);
        pairs(shop, 1, 1, 0);
        pairs(shop, 3, 5, 0);
        pairs(shop, 2, 6, 0);
        shop.addGear(8);
        pairs(shop, 1, 1, 1);
        pairs(shop, 60, 60, 1);
        pairs(shop, 60, 59, 0);
        PlanetWorkshop last = Tools.withGears(6, 6, 6, 6, 6, 6, 6, 6, 10, 60);
        pairs(last, 1, 6, 1);
        pairs(last, 6, 1, 1);
        pairs(last, 10, 1, 1);
        pairs(last, 50, 3, 2);
        pairs(last, 60, 1, 0);
        pairs(last, 36, 1, 0);
    }

    private static void twoPairs() {
        PlanetWorkshop shop = Tools.withGears(40, 8, 60, 15);
        pairs(shop, 20, 1, 2);
        pairs(shop, 1, 20, 2);
        pairs(shop, 40, 2, 2);
        pairs(shop, 25, 1, 0);
        pairs(shop, 16, 1, 0);
        pairs(shop, 5, 1, 1);
        pairs(shop, 1, 1, 0);
        shop.undo();
        pairs(shop, 20, 1, 0);
        shop.addGear(12);
        pairs(shop, 25, 1, 2);
        pairs(shop, 9, 4, 2);
        pairs(shop, 24, 1, 0);
        PlanetWorkshop cross = Tools.withGears(10, 20, 15, 30);
        pairs(cross, 1, 1, 2);
        pairs(cross, 1, 4, 2);
        pairs(cross, 9, 1, 0);
    }

    private static void jointsDoNotMatter() {
        PlanetWorkshop shop = Tools.withGears(40, 8, 60, 15);
        shop.mesh(0, 1);
        pairs(shop, 20, 1, 2);
        shop.mesh(1, 2);
        shop.mesh(2, 3);
        pairs(shop, 20, 1, 2);
        pairs(shop, 5, 1, 1);
        shop.separate(0, 1);
        shop.shareAxle(0, 1);
        pairs(shop, 5, 1, 1);
        pairs(shop, 25, 1, 0);
    }
}
