/** Promises 6 to 10, 22 to 30 and 42 to 45: springs, releases, ratchets, angles and accounts. */
public final class SpringsTest {
    private static final int[] WRONG_GEARS = {-1, 3, 10, Integer.MIN_VALUE, Integer.MAX_VALUE};

    public static void main(String[] args) {
        wrongGears();
        setSpring();
        wind();
        reverse();
        release();
        releaseOfLongTrain();
        ratchets();
        turnsAndFriction();
        angles();
        accounts();
        Check.end("SpringsTest");
    }

    private static void wrongGears() {
        PlanetWorkshop shop = Tools.withGears(20, 60, 12);
        for (int gear : WRONG_GEARS) {
            Check.refused("setSpring", Tools.INDEX, () -> shop.setSpring(gear, 5));
            Check.refused("wind", Tools.INDEX, () -> shop.wind(gear, 0));
            Check.refused("reverse", Tools.INDEX, () -> shop.reverse(gear));
            Check.refused("release", Tools.INDEX, () -> shop.release(gear, 0));
            Check.refused("setRatchet", Tools.INDEX, () -> shop.setRatchet(gear, true));
            Check.refused("angle", Tools.INDEX, () -> shop.angle(gear));
            Check.refused("anglePart", Tools.INDEX, () -> shop.anglePart(gear));
            Check.refused("tension", Tools.INDEX, () -> shop.tension(gear));
            Check.refused("springSize", Tools.INDEX, () -> shop.springSize(gear));
            Check.refused("springOf", Tools.INDEX, () -> shop.springOf(gear));
            Check.refused("friction", Tools.INDEX, () -> shop.friction(gear));
            Check.refused("turnsLeft", Tools.INDEX, () -> shop.turnsLeft(gear));
            Check.refused("canRelease", Tools.INDEX, () -> shop.canRelease(gear));
            Check.refused("hasRatchet", Tools.INDEX, () -> shop.hasRatchet(gear));
        }
        Check.refused("tension(0)", Tools.MISSING, () -> shop.tension(0));
        Check.refused("springSize(0)", Tools.MISSING, () -> shop.springSize(0));
        Check.refused("springOf(0)", Tools.MISSING, () -> shop.springOf(0));
        Check.refused("turnsLeft(0)", Tools.MISSING, () -> shop.turnsLeft(0));
        Check.no("canRelease(0)", shop.canRelease(0));
    }

    private static void setSpring() {
        PlanetWorkshop shop = Tools.withGears(20, 60, 12, 15);
        shop.mesh(0, 1);
        int[] wrong = {9, 201, 0, -10, Integer.MAX_VALUE, Integer.MIN_VALUE};
        for (int size : wrong) {
            Check.refused("size " + size, Tools.ARGUMENT, () -> shop.setSpring(0, size));
        }
        Check.same("setSpring(1, 10)", shop.setSpring(1, 10), 1);
        Check.same("springSize(1)", shop.springSize(1), 10);
        Check.same("tension(1)", shop.tension(1), 0);
        Check.refused("a second one in it", Tools.STATE, () -> shop.setSpring(1, 20));
        Check.refused("a second one in its train", Tools.STATE, () -> shop.setSpring(0, 20));
        Check.refused("wrong size first", Tools.ARGUMENT, () -> shop.setSpring(0, 9));
        Check.refused("springSize(0)", Tools.MISSING, () -> shop.springSize(0));
        Check.same("setSpring(2, 200)", shop.setSpring(2, 200), 2);
        Check.same("springSize(2)", shop.springSize(2), 200);
        Check.same("setSpring(3, 11)", shop.setSpring(3, 11), 3);
        Check.same("springOf(0)", shop.springOf(0), 1);
        Check.same("springOf(1)", shop.springOf(1), 1);
        Check.same("springOf(3)", shop.springOf(3), 3);
        Check.no("it is not reversed", Tools.gearText(shop, 1).contains("-"));
    }

    private static void wind() {
        PlanetWorkshop shop = Tools.withGears(20, 60);
        shop.mesh(0, 1);
        shop.setSpring(0, 200);
        int[] wrong = {0, -1, 201, Integer.MAX_VALUE, Integer.MIN_VALUE};
        for (int amount : wrong) {
            Check.refused("amount " + amount, Tools.ARGUMENT, () -> shop.wind(0, amount));
            Check.refused("amount without spring", Tools.ARGUMENT, () -> shop.wind(1, amount));
        }
        Check.refused("wind(1, 1)", Tools.MISSING, () -> shop.wind(1, 1));
        Check.refused("wind(1, 200)", Tools.MISSING, () -> shop.wind(1, 200));
        Check.same("wind(0, 1)", shop.wind(0, 1), 1);
        Check.refused("wind(0, 200)", Tools.STATE, () -> shop.wind(0, 200));
        Check.same("tension(0)", shop.tension(0), 1);
        Check.same("wind(0, 199)", shop.wind(0, 199), 200);
        Check.refused("wind(0, 1)", Tools.STATE, () -> shop.wind(0, 1));
        Check.same("tension(0)", shop.tension(0), 200);
        Check.same("woundTotal", shop.woundTotal(), 200);
        PlanetWorkshop full = Tools.withGears(20);
        full.setSpring(0, 200);
        Check.same("all at once", full.wind(0, 200), 200);
    }

    private static void reverse() {
        PlanetWorkshop shop = Tools.withGears(20, 60);
        shop.mesh(0, 1);
        Check.refused("reverse(0)", Tools.MISSING, () -> shop.reverse(0));
        shop.setSpring(0, 20);
        shop.wind(0, 20);
        Check.refused("reverse(1)", Tools.MISSING, () -> shop.reverse(1));
        Check.yes("reverse(0)", shop.reverse(0));
        Check.no("reverse(0) again", shop.reverse(0));
        Check.yes("reverse(0) once more", shop.reverse(0));
        Check.same("release(0, 1)", shop.release(0, 1), 1);
        Check.same("angle(1)", shop.angle(1), Tools.TURN / 3);
    }

    private static void release() {
        PlanetWorkshop shop = Tools.withGears(20, 60, 12);
        shop.mesh(0, 1);
        int[] wrong = {0, -1, 51, Integer.MAX_VALUE, Integer.MIN_VALUE};
        for (int turns : wrong) {
            Check.refused("turns " + turns, Tools.ARGUMENT, () -> shop.release(0, turns));
        }
        Check.refused("release(0, 1)", Tools.MISSING, () -> shop.release(0, 1));
        shop.setSpring(0, 200);
        Check.refused("release(1, 1)", Tools.MISSING, () -> shop.release(1, 1));
        Check.same("without tension", shop.release(0, 50), 0);
        Check.same("releaseTotal", shop.releaseTotal(), 0);
        shop.wind(0, 3);
        Check.same("with too little tension", shop.release(0, 50), 0);
        Check.same("tension(0)", shop.tension(0), 3);
        Check.same("releaseTotal", shop.releaseTotal(), 0);
        shop.wind(0, 1);
        Check.same("for one turn", shop.release(0, 50), 1);
        Check.same("tension(0)", shop.tension(0), 0);
        Check.same("angle(0)", shop.angle(0), 0L);
        Check.same("angle(1)", shop.angle(1), Tools.TURN / 3 * 2);
        Check.same("angle(2)", shop.angle(2), 0L);
        shop.wind(0, 30);
        Check.same("as many as wanted", shop.release(0, 4), 4);
        Check.same("tension(0)", shop.tension(0), 14);
        Check.same("angle(1)", shop.angle(1), Tools.TURN / 3);
        Check.same("releaseTotal", shop.releaseTotal(), 2);
        shop.setSpring(2, 200);
        shop.wind(2, 200);
        shop.oil(2);
        Check.same("fifty turns", shop.release(2, 50), 50);
        Check.same("tension(2)", shop.tension(2), 150);
    }

    /** One turn of the first gear is 100000 of the last one, and back. */
    private static void releaseOfLongTrain() {
        PlanetWorkshop shop = Tools.withGears(60, 6, 60, 6, 60, 6, 60, 6, 60, 8);
        for (int gear = 0; gear < 10; gear += 2) {
            shop.mesh(gear, gear + 1);
        }
        for (int gear = 1; gear < 9; gear += 2) {
            shop.shareAxle(gear, gear + 1);
        }
        shop.setSpring(9, 200);
        shop.wind(9, 200);
        Check.same("release(9, 7)", shop.release(9, 7), 7);
        long turned = Tools.TURN / 75000L * 7L;
        Check.same("angle(0)", shop.angle(0), Tools.TURN - turned);
        Check.same("angle(1)", shop.angle(1), turned * 10L);
        shop.reverse(9);
        Check.same("release(9, 3)", shop.release(9, 3), 3);
        Check.same("angle(0)", shop.angle(0), Tools.TURN - turned / 7L * 4L);
    }

    private static void ratchets() {
        PlanetWorkshop shop = Tools.withGears(20, 60, 12);
        shop.mesh(0, 1);
        Check.no("setRatchet(1, true)", shop.setRatchet(1, true));
        Check.yes("hasRatchet(1)", shop.hasRatchet(1));
        Check.no("hasRatchet(0)", shop.hasRatchet(0));
        Check.yes("setRatchet(1, true) again", shop.setRatchet(1, true));
        shop.setSpring(0, 100);
        Check.no("canRelease(0) backwards", shop.canRelease(0));
        Check.no("canRelease(1) without spring", shop.canRelease(1));
        Check.refused("even without tension", Tools.UNSUPPORTED, () -> shop.release(0, 1));
        shop.wind(0, 100);
        Check.refused("with tension", Tools.UNSUPPORTED, () -> shop.release(0, 50));
        Check.same("tension(0)", shop.tension(0), 100);
        Check.refused("wrong turns first", Tools.ARGUMENT, () -> shop.release(0, 51));
        shop.reverse(0);
        Check.yes("canRelease(0) reversed", shop.canRelease(0));
        Check.same("release(0, 1)", shop.release(0, 1), 1);
        shop.setRatchet(0, true);
        Check.no("canRelease(0) with its own ratchet", shop.canRelease(0));
        Check.refused("its own ratchet", Tools.UNSUPPORTED, () -> shop.release(0, 1));
        Check.yes("setRatchet(0, false)", shop.setRatchet(0, false));
        Check.no("setRatchet(0, false) again", shop.setRatchet(0, false));
        Check.no("hasRatchet(0)", shop.hasRatchet(0));
        Check.yes("canRelease(0) again", shop.canRelease(0));
        shop.setRatchet(2, true);
        Check.yes("a ratchet in another train", shop.canRelease(0));
        PlanetWorkshop empty = Tools.withGears(20);
        empty.setSpring(0, 10);
        Check.yes("canRelease without tension", empty.canRelease(0));
    }

    private static void turnsAndFriction() {
        PlanetWorkshop shop = Tools.withGears(20, 60, 12);
        Check.same("friction of a gear", shop.friction(0), 2);
        shop.oil(2);
        Check.same("friction of an oiled gear", shop.friction(2), 1);
        shop.mesh(0, 1);
        Check.same("friction(1)", shop.friction(1), 4);
        shop.mesh(1, 2);
        Check.same("friction(0)", shop.friction(0), 5);
        shop.setSpring(1, 100);
        Check.refused("turnsLeft(0)", Tools.MISSING, () -> shop.turnsLeft(0));
        Check.same("turnsLeft(1)", shop.turnsLeft(1), 0);
        shop.wind(1, 4);
        Check.same("turnsLeft(1)", shop.turnsLeft(1), 0);
        shop.wind(1, 1);
        Check.same("turnsLeft(1)", shop.turnsLeft(1), 1);
        shop.wind(1, 94);
        Check.same("turnsLeft(1)", shop.turnsLeft(1), 19);
    }

    private static void angles() {
        PlanetWorkshop shop = Tools.withGears(60, 40, 24);
        shop.mesh(0, 1);
        shop.mesh(0, 2);
        shop.setSpring(0, 100);
        shop.wind(0, 100);
        shop.release(0, 1);
        Check.same("angle(0)", shop.angle(0), 0L);
        Check.same("angle(1)", shop.angle(1), Tools.TURN / 2);
        Check.same("angle(2)", shop.angle(2), Tools.TURN / 2);
        Check.same("anglePart(1)", shop.anglePart(1), 0.5);
        Check.same("anglePart(0)", shop.anglePart(0), 0.0);
        shop.release(0, 1);
        Check.same("angle(1)", shop.angle(1), 0L);
        PlanetWorkshop third = Tools.withGears(20, 60);
        third.mesh(0, 1);
        third.setSpring(0, 100);
        third.wind(0, 100);
        third.release(0, 1);
        Check.same("anglePart of two thirds", third.anglePart(1), 2.0 / 3.0);
        third.release(0, 1);
        Check.same("anglePart of one third", third.anglePart(1), 1.0 / 3.0);
    }

    private static void accounts() {
        PlanetWorkshop shop = Tools.withGears(20, 60, 12);
        shop.mesh(0, 1);
        shop.setSpring(0, 50);
        shop.setSpring(2, 60);
        shop.wind(0, 50);
        shop.wind(2, 21);
        Check.same("woundTotal", shop.woundTotal(), 71);
        Check.same("tensionTotal", shop.tensionTotal(), 71);
        Check.same("tensionByAccounts", shop.tensionByAccounts(), 71);
        shop.release(0, 5);
        shop.release(2, 50);
        Check.same("woundTotal", shop.woundTotal(), 71);
        Check.same("tensionTotal", shop.tensionTotal(), 31);
        Check.same("tensionByAccounts", shop.tensionByAccounts(), 31);
        Check.same("releaseTotal", shop.releaseTotal(), 2);
        shop.wind(2, 59);
        Check.same("woundTotal", shop.woundTotal(), 130);
        Check.same("tensionByAccounts", shop.tensionByAccounts(), 90);
        Check.refused("a failed wind", Tools.STATE, () -> shop.wind(2, 1));
        Check.same("woundTotal", shop.woundTotal(), 130);
        shop.undo();
        Check.same("woundTotal after undo", shop.woundTotal(), 71);
        Check.same("tensionByAccounts after undo", shop.tensionByAccounts(), 31);
        shop.undo();
        Check.same("releaseTotal after undo", shop.releaseTotal(), 1);
        Check.same("tensionByAccounts after undo", shop.tensionByAccounts(), 51);
        Check.same("tensionTotal after undo", shop.tensionTotal(), 51);
    }
}
