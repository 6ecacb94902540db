import java.util.List;
import java.util.function.Supplier;

/** Workshops in several states, built anew by each call. */
final class Shops {
    /** Below, at and above every number of gears, planets and characters, and the ends of int. */
    static final int[] FAR = {Integer.MIN_VALUE, Integer.MIN_VALUE + 1, -100, -1, 10, 11, 60, 100,
        1 << 16, 1 << 30, Integer.MAX_VALUE - 1, Integer.MAX_VALUE};

    private static final String SIXTY = "buy 1;buy 1;buy 1;buy 1;buy 1;buy 1;buy 1;buy 1;buy 1;buy 10";

    private Shops() {
    }

    static List<Supplier<PlanetWorkshop>> all() {
        return List.of(PlanetWorkshop::new, Shops::rich, Shops::undone, Shops::full);
    }

    /**
     * Nothing in it is as in a new object: 4 gears in the trains 0, 1 and 2, 3, a spring in 0 and a
     * reversed one in 3, planets on 1 and 2, a snapshot, more than 8 changes, an error position, a
     * failed command, an output text and a begun script.
     */
    static PlanetWorkshop rich() {
        PlanetWorkshop shop = Tools.withGears(20, 60, 12, 15);
        Tools.run(shop, "mesh 01;axle 23;spring 0 100;wind 0 40;oil 1");
        fail(shop, "gear 6;gear 7");
        fail(shop, "gear 6;gem");
        shop.release(0, 2);
        shop.addPlanet(1);
        shop.save();
        shop.addPlanet(2);
        shop.setRatchet(2, true);
        shop.setSpring(3, 30);
        shop.wind(3, 5);
        shop.reverse(3);
        shop.renderGear(3);
        Tools.typeText(shop, "buy 1");
        return shop;
    }

    /** Two gears are left; a third one and what it had are undone. */
    static PlanetWorkshop undone() {
        PlanetWorkshop shop = Tools.withGears(20, 60, 12);
        Tools.run(shop, "mesh 12;spring 2 50;wind 2 9;oil 2;planet 2;ratchet 2");
        shop.undo();
        shop.undo();
        return shop;
    }

    /** All places are taken: 10 gears on axles with 15 joints, 6 planets, 99 drops, 60 characters. */
    static PlanetWorkshop full() {
        PlanetWorkshop shop = Tools.withGears(6, 8, 10, 12, 15, 20, 24, 30, 40, 60);
        for (int gear = 1; gear < 10; gear++) {
            shop.shareAxle(gear - 1, gear);
        }
        for (int gear = 2; gear < 8; gear++) {
            shop.shareAxle(gear - 2, gear);
        }
        for (int gear = 4; gear < 10; gear++) {
            shop.addPlanet(gear);
        }
        shop.setSpring(5, 200);
        shop.wind(5, 200);
        shop.buyOil(50);
        shop.buyOil(37);
        shop.save();
        shop.renderTrain(3);
        Tools.typeText(shop, SIXTY);
        return shop;
    }

    static void fail(PlanetWorkshop shop, String text) {
        Tools.typeText(shop, text);
        try {
            shop.runScript();
            Check.yes("a script that should fail: " + text, false);
        } catch (IllegalArgumentException | IllegalStateException e) {
            // It is meant to fail.
        }
    }

    /** Two gears, with the drops used up: each drop went to gear 0, which ran dry again. */
    static PlanetWorkshop withoutDrops() {
        PlanetWorkshop shop = Tools.withGears(20, 60);
        shop.setSpring(0, 200);
        for (int drop = 0; drop < 12; drop++) {
            shop.oil(0);
            shop.wind(0, 30);
            shop.release(0, 30);
        }
        return shop;
    }
}
