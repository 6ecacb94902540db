/** Promises 11, 12, 31 to 33, 46 and 47: oil, wear, dry gears and means. */
public final class OilTest {
    public static void main(String[] args) {
        oil();
        buyOil();
        wear();
        wearLimit();
        means();
        Check.end("OilTest");
    }

    private static void oil() {
        PlanetWorkshop shop = Tools.withGears(20, 60, 12);
        int[] wrong = {-1, 3, Integer.MIN_VALUE, Integer.MAX_VALUE};
        for (int gear : wrong) {
            Check.refused("oil(" + gear + ")", Tools.INDEX, () -> shop.oil(gear));
            Check.refused("isDry(" + gear + ")", Tools.INDEX, () -> shop.isDry(gear));
            Check.refused("wear(" + gear + ")", Tools.INDEX, () -> shop.wear(gear));
        }
        Check.yes("isDry(1)", shop.isDry(1));
        Check.refused("wear of a dry gear", Tools.MISSING, () -> shop.wear(1));
        Check.same("oil(1)", shop.oil(1), 11);
        Check.no("isDry(1)", shop.isDry(1));
        Check.yes("isDry(0)", shop.isDry(0));
        Check.same("wear(1)", shop.wear(1), 0);
        Check.same("drops", shop.drops(), 11);
        Check.refused("oil(1) again", Tools.STATE, () -> shop.oil(1));
        Check.same("drops", shop.drops(), 11);
        noDrops();
    }

    /** The only way to use up the drops: gears run dry and are oiled again. */
    private static void noDrops() {
        PlanetWorkshop shop = Tools.withGears(60, 6);
        shop.setSpring(0, 200);
        for (int drop = 11; drop >= 0; drop--) {
            Check.same("oil(0)", shop.oil(0), drop);
            shop.wind(0, 30);
            shop.release(0, 30);
        }
        Check.yes("isDry(0)", shop.isDry(0));
        Check.refused("oil(0) without drops", Tools.UNSUPPORTED, () -> shop.oil(0));
        Check.yes("isDry(0)", shop.isDry(0));
        Check.same("buyOil(1)", shop.buyOil(1), 1);
        Check.same("oil(1)", shop.oil(1), 0);
        Check.refused("oil(1) again", Tools.STATE, () -> shop.oil(1));
    }

    private static void buyOil() {
        PlanetWorkshop shop = new PlanetWorkshop();
        int[] wrong = {0, -1, 51, Integer.MIN_VALUE, Integer.MAX_VALUE};
        for (int drops : wrong) {
            Check.refused("buyOil(" + drops + ")", Tools.ARGUMENT, () -> shop.buyOil(drops));
        }
        Check.same("buyOil(1)", shop.buyOil(1), 13);
        Check.same("buyOil(50)", shop.buyOil(50), 63);
        Check.refused("buyOil(37)", Tools.STATE, () -> shop.buyOil(37));
        Check.refused("buyOil(51) with many", Tools.ARGUMENT, () -> shop.buyOil(51));
        Check.same("drops", shop.drops(), 63);
        Check.same("buyOil(36)", shop.buyOil(36), 99);
        Check.refused("buyOil(1)", Tools.STATE, () -> shop.buyOil(1));
        Check.same("drops", shop.drops(), 99);
    }

    private static void wear() {
        PlanetWorkshop shop = Tools.withGears(20, 60, 12);
        shop.mesh(0, 1);
        shop.setSpring(0, 200);
        shop.wind(0, 200);
        shop.oil(0);
        shop.oil(1);
        shop.oil(2);
        shop.release(0, 2);
        Check.same("wear(0)", shop.wear(0), 2);
        Check.same("wear(1), backwards", shop.wear(1), 0);
        Check.same("wear(2), another train", shop.wear(2), 0);
        shop.reverse(0);
        shop.release(0, 3);
        Check.same("wear(0)", shop.wear(0), 5);
        Check.same("wear(1) after 5 / 3", shop.wear(1), 1);
        shop.release(0, 1);
        Check.same("wear(1) after 6 / 3", shop.wear(1), 2);
        Check.same("friction is low", shop.friction(0), 2);
    }

    private static void wearLimit() {
        PlanetWorkshop shop = Tools.withGears(20, 10);
        shop.mesh(0, 1);
        shop.setSpring(0, 200);
        shop.wind(0, 200);
        shop.oil(0);
        shop.oil(1);
        shop.release(0, 14);
        Check.same("wear(1)", shop.wear(1), 28);
        Check.no("isDry(1)", shop.isDry(1));
        Check.same("tension before", shop.tension(0), 172);
        shop.release(0, 1);
        Check.yes("isDry(1) at 30", shop.isDry(1));
        Check.refused("wear(1)", Tools.MISSING, () -> shop.wear(1));
        Check.same("wear(0)", shop.wear(0), 15);
        Check.same("friction", shop.friction(0), 3);
        shop.oil(1);
        Check.same("wear(1) when it is oiled", shop.wear(1), 0);
        Check.same("more than is left till dry", shop.release(0, 50), 50);
        Check.same("friction stays during a release", shop.tension(0), 70);
        Check.yes("isDry(0)", shop.isDry(0));
        Check.yes("isDry(1)", shop.isDry(1));
        Check.same("friction", shop.friction(0), 4);
        justBelow();
    }

    private static void justBelow() {
        PlanetWorkshop shop = Tools.withGears(60, 40);
        shop.mesh(0, 1);
        shop.setSpring(0, 200);
        shop.wind(0, 200);
        shop.oil(1);
        shop.release(0, 19);
        Check.same("wear(1) of 28.5", shop.wear(1), 28);
        shop.release(0, 1);
        Check.yes("isDry(1) at 30", shop.isDry(1));
        PlanetWorkshop single = Tools.withGears(60);
        single.setSpring(0, 200);
        single.wind(0, 200);
        single.oil(0);
        single.release(0, 29);
        Check.same("wear(0)", single.wear(0), 29);
        single.release(0, 1);
        Check.yes("isDry(0)", single.isDry(0));
    }

    private static void means() {
        PlanetWorkshop shop = new PlanetWorkshop();
        Check.refused("meanTeeth", ArithmeticException.class, shop::meanTeeth);
        Check.refused("dryShare", ArithmeticException.class, shop::dryShare);
        shop.addGear(15);
        Check.same("meanTeeth", shop.meanTeeth(), 15.0);
        Check.same("dryShare", shop.dryShare(), 1.0f);
        shop.oil(0);
        Check.same("dryShare", shop.dryShare(), 0.0f);
        shop.addGear(20);
        Check.same("meanTeeth", shop.meanTeeth(), 17.5);
        Check.same("dryShare", shop.dryShare(), 0.5f);
        shop.addGear(6);
        Check.same("meanTeeth", shop.meanTeeth(), 41.0 / 3.0);
        Check.same("dryShare", shop.dryShare(), 2.0f / 3.0f);
        shop.undo();
        Check.same("meanTeeth after undo", shop.meanTeeth(), 17.5);
    }
}
