/** Promises 56 to 58: undo, the snapshot and what they cover. */
public final class ChangesTest {
    public static void main(String[] args) {
        eachChangeCounts();
        latestEight();
        undoThenChange();
        refusedCallsAreNoChanges();
        undoCovers();
        snapshot();
        carriersComeBack();
        Check.end("ChangesTest");
    }

    private static void eachChangeCounts() {
        PlanetWorkshop shop = Tools.withGears(20, 60);
        shop.undo();
        Check.same("gearCount", shop.gearCount(), 1);
        shop.addGear(60);
        shop.mesh(0, 1);
        shop.separate(0, 1);
        shop.shareAxle(0, 1);
        shop.setSpring(0, 10);
        shop.reverse(0);
        shop.release(0, 1);
        Check.same("an idle release is a change", shop.undo(), 7);
        Check.same("undo of reverse", shop.undo(), 6);
        Check.same("the gear", Tools.gearText(shop, 0), "0:20ds0/10");
        Check.same("undo of setSpring", shop.undo(), 5);
        Check.same("the gear", Tools.gearText(shop, 0), "0:20d");
        Check.same("undo of shareAxle", shop.undo(), 4);
        Check.refused("joint(0, 1)", Tools.MISSING, () -> shop.joint(0, 1));
        Check.same("undo of separate", shop.undo(), 3);
        Check.same("joint(0, 1)", shop.joint(0, 1), 'm');
        Check.same("undo of mesh", shop.undo(), 2);
        Check.same("jointCount", shop.jointCount(), 0);
        Check.same("undo of addGear", shop.undo(), 1);
        Check.same("undo of addGear", shop.undo(), 0);
        Check.refused("nothing to undo", Tools.MISSING, shop::undo);
        Check.same("gearCount", shop.gearCount(), 0);
        otherChanges();
    }

    private static void otherChanges() {
        PlanetWorkshop shop = Tools.withGears(20);
        shop.oil(0);
        shop.buyOil(1);
        shop.addPlanet(0);
        shop.setRatchet(0, false);
        Tools.run(shop, "free 0");
        shop.setSpring(0, 10);
        shop.wind(0, 1);
        Check.same("undo of wind", shop.undo(), 7);
        Check.same("tension(0)", shop.tension(0), 0);
        shop.undo();
        Check.same("undo of runScript without effect", shop.undo(), 5);
        Check.same("undo of setRatchet without effect", shop.undo(), 4);
        Check.same("planetCount", shop.planetCount(), 1);
        Check.same("undo of addPlanet", shop.undo(), 3);
        Check.same("planetCount", shop.planetCount(), 0);
        Check.same("undo of buyOil", shop.undo(), 2);
        Check.same("drops", shop.drops(), 11);
        Check.same("undo of oil", shop.undo(), 1);
        Check.same("drops", shop.drops(), 12);
        Check.yes("isDry(0)", shop.isDry(0));
    }

    private static void latestEight() {
        PlanetWorkshop shop = new PlanetWorkshop();
        for (int drop = 1; drop <= 20; drop++) {
            shop.buyOil(1);
        }
        for (int left = 7; left >= 0; left--) {
            Check.same("undo", shop.undo(), left);
            Check.same("drops", shop.drops(), 24 + left);
        }
        Check.refused("a ninth undo", Tools.MISSING, shop::undo);
        Check.same("drops", shop.drops(), 24);
        shop.buyOil(3);
        Check.same("undo of a new change", shop.undo(), 0);
        Check.same("drops", shop.drops(), 24);
    }

    private static void undoThenChange() {
        PlanetWorkshop shop = new PlanetWorkshop();
        for (int drop = 1; drop <= 10; drop++) {
            shop.buyOil(drop);
        }
        shop.undo();
        shop.undo();
        shop.undo();
        Check.same("drops", shop.drops(), 40);
        shop.buyOil(50);
        Check.same("undo", shop.undo(), 5);
        Check.same("drops", shop.drops(), 40);
        Check.same("undo", shop.undo(), 4);
        Check.same("drops", shop.drops(), 33);
    }

    private static void refusedCallsAreNoChanges() {
        PlanetWorkshop shop = Tools.withGears(20, 60);
        Check.refused("addGear(7)", Tools.ARGUMENT, () -> shop.addGear(7));
        Check.refused("mesh(0, 0)", Tools.ARGUMENT, () -> shop.mesh(0, 0));
        Check.refused("shareAxle(0, 2)", Tools.INDEX, () -> shop.shareAxle(0, 2));
        Check.refused("separate(0, 1)", Tools.MISSING, () -> shop.separate(0, 1));
        Check.refused("setSpring(0, 9)", Tools.ARGUMENT, () -> shop.setSpring(0, 9));
        Check.refused("wind(0, 1)", Tools.MISSING, () -> shop.wind(0, 1));
        Check.refused("reverse(0)", Tools.MISSING, () -> shop.reverse(0));
        Check.refused("release(0, 1)", Tools.MISSING, () -> shop.release(0, 1));
        Check.refused("setRatchet(2, true)", Tools.INDEX, () -> shop.setRatchet(2, true));
        Check.refused("oil(2)", Tools.INDEX, () -> shop.oil(2));
        Check.refused("buyOil(0)", Tools.ARGUMENT, () -> shop.buyOil(0));
        Check.refused("addPlanet(2)", Tools.INDEX, () -> shop.addPlanet(2));
        Check.refused("runScript", Tools.ARGUMENT, shop::runScript);
        shop.isConsistent();
        shop.save();
        shop.renderGear(0);
        Check.same("undo", shop.undo(), 1);
        Check.same("undo", shop.undo(), 0);
    }

    private static void undoCovers() {
        PlanetWorkshop shop = Tools.withGears(20, 60);
        Tools.run(shop, "mesh 01;spring 0 99;wind 0 50;oil 0;oil 1");
        shop.release(0, 4);
        shop.release(0, 20);
        Check.same("undo", shop.undo(), 4);
        Check.same("angle(1)", shop.angle(1), Tools.TURN / 3 * 2);
        Check.same("wear(0)", shop.wear(0), 4);
        Check.same("wear(1)", shop.wear(1), 1);
        Check.same("tension(0)", shop.tension(0), 42);
        Check.same("tensionByAccounts", shop.tensionByAccounts(), 42);
        Check.same("releaseTotal", shop.releaseTotal(), 1);
        shop.undo();
        shop.undo();
        Check.same("drops", shop.drops(), 12);
        Check.same("woundTotal", shop.woundTotal(), 0);
        Check.same("a gear with another spring", shop.setSpring(1, 10), 1);
    }

    /** The same planet is carried by one gear in the snapshot and by another one afterwards. */
    private static void carriersComeBack() {
        PlanetWorkshop shop = Tools.withGears(20, 60, 12);
        shop.addPlanet(1);
        shop.save();
        shop.undo();
        shop.addPlanet(2);
        Check.same("gearOf(0)", shop.gearOf(0), 2);
        shop.restore();
        Check.same("gearOf(0) after restore", shop.gearOf(0), 1);
        Check.same("planetCount", shop.planetCount(), 1);
        Check.same("the other gear carries none", shop.addPlanet(2), 1);
        Check.same("undo of the second planet", shop.undo(), 0);
        Check.same("gearOf(0) after undo", shop.gearOf(0), 1);
    }

    private static void snapshot() {
        PlanetWorkshop shop = new PlanetWorkshop();
        Check.refused("restore", Tools.STATE, shop::restore);
        Check.same("save of nothing", shop.save(), 0);
        shop.addGear(20);
        shop.addGear(60);
        Check.same("restore of nothing", shop.restore(), 0);
        Check.same("gearCount", shop.gearCount(), 0);
        Check.refused("nothing to undo", Tools.MISSING, shop::undo);
        Tools.run(shop, "gear 20;gear 60;mesh 01;spring 0 99;wind 0 50");
        Tools.run(shop, "run 0 2;oil 1;planet 1;ratchet 1;reverse 0");
        Check.same("save", shop.save(), 2);
        Check.same("undo after save", shop.undo(), 1);
        Check.same("undo after save", shop.undo(), 0);
        Check.same("gearCount", shop.gearCount(), 0);
        shop.addGear(6);
        Check.same("restore", shop.restore(), 2);
        Check.refused("nothing to undo", Tools.MISSING, shop::undo);
        Check.same("teeth(0)", shop.teeth(0), 20);
        Check.same("gear 0", Tools.gearText(shop, 0), "0:20ds42/99-");
        Check.same("gear 1", Tools.gearText(shop, 1), "1:60r");
        Check.same("train", Tools.trainText(shop, 0), "0,1*");
        Check.same("angle(1)", shop.angle(1), Tools.TURN / 3);
        Check.same("drops", shop.drops(), 11);
        Check.same("woundTotal", shop.woundTotal(), 50);
        Check.same("tensionByAccounts", shop.tensionByAccounts(), 42);
        Check.same("releaseTotal", shop.releaseTotal(), 1);
        shop.separate(0, 1);
        Check.same("it is kept", shop.restore(), 2);
        Check.same("jointCount", shop.jointCount(), 1);
        shop.addGear(8);
        Check.same("another one", shop.save(), 3);
        shop.addGear(10);
        Check.same("replaces it", shop.restore(), 3);
        shop.addGear(12);
        Check.same("undo after restore", shop.undo(), 0);
        Check.same("gearCount", shop.gearCount(), 3);
    }
}
