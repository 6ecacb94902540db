/** Promises 49 to 51: the output text. */
public final class TextsTest {
    public static void main(String[] args) {
        PlanetWorkshop shop = new PlanetWorkshop();
        Check.refused("outputAt(0) initially", Tools.INDEX, () -> shop.outputAt(0));
        Check.refused("renderGear(0)", Tools.INDEX, () -> shop.renderGear(0));
        Check.refused("renderTrain(0)", Tools.INDEX, () -> shop.renderTrain(0));
        gears();
        trains();
        staysWhenRefused();
        Check.end("TextsTest");
    }

    private static void gears() {
        PlanetWorkshop shop = Tools.withGears(20, 60, 12, 24);
        Check.same("a dry gear", Tools.gearText(shop, 3), "3:24d");
        shop.setRatchet(3, true);
        Check.same("with a ratchet", Tools.gearText(shop, 3), "3:24dr");
        shop.setSpring(3, 100);
        Check.same("with a spring", Tools.gearText(shop, 3), "3:24drs0/100");
        shop.wind(3, 40);
        shop.reverse(3);
        Check.same("the document's text", Tools.gearText(shop, 3), "3:24drs40/100-");
        Check.same("renderGear(3)", shop.renderGear(3), 14);
        shop.oil(3);
        shop.setRatchet(3, false);
        Check.same("oiled", Tools.gearText(shop, 3), "3:24s40/100-");
        shop.reverse(3);
        Check.same("not reversed", Tools.gearText(shop, 3), "3:24s40/100");
        shop.oil(1);
        Check.same("nothing of it", Tools.gearText(shop, 1), "1:60");
        shop.mesh(1, 3);
        Check.same("the spring of another gear", Tools.gearText(shop, 1), "1:60");
        shop.oil(2);
        shop.setRatchet(2, true);
        Check.same("a ratchet alone", Tools.gearText(shop, 2), "2:12r");
    }

    private static void trains() {
        PlanetWorkshop shop = Tools.withGears(20, 60, 12, 15, 6, 8, 10, 12, 15, 20);
        Check.same("a gear alone", Tools.trainText(shop, 9), "9");
        shop.addPlanet(2);
        Check.same("a gear with a planet", Tools.trainText(shop, 2), "2*");
        shop.mesh(5, 2);
        shop.mesh(2, 0);
        Check.same("the document's text", Tools.trainText(shop, 5), "0,2*,5");
        Check.same("from another gear", Tools.trainText(shop, 0), "0,2*,5");
        Check.same("another train", Tools.trainText(shop, 1), "1");
        shop.addPlanet(0);
        shop.addPlanet(9);
        Check.same("two planets", Tools.trainText(shop, 2), "0*,2*,5");
        Check.same("renderTrain(2)", shop.renderTrain(2), 7);
        int[] wrong = {-1, 10, Integer.MIN_VALUE, Integer.MAX_VALUE};
        for (int gear : wrong) {
            Check.refused("renderGear(" + gear + ")", Tools.INDEX, () -> shop.renderGear(gear));
            Check.refused("renderTrain(" + gear + ")", Tools.INDEX, () -> shop.renderTrain(gear));
        }
    }

    private static void staysWhenRefused() {
        PlanetWorkshop shop = Tools.withGears(20, 60);
        shop.renderGear(1);
        Check.refused("renderGear(2)", Tools.INDEX, () -> shop.renderGear(2));
        Check.refused("renderTrain(2)", Tools.INDEX, () -> shop.renderTrain(2));
        shop.undo();
        shop.save();
        shop.restore();
        Check.same("the text is kept", Tools.output(shop, 5), "1:60d");
        Check.refused("outputAt(-1)", Tools.INDEX, () -> shop.outputAt(-1));
        Check.refused("outputAt(least)", Tools.INDEX, () -> shop.outputAt(Integer.MIN_VALUE));
        Check.refused("outputAt(greatest)", Tools.INDEX, () -> shop.outputAt(Integer.MAX_VALUE));
        Check.same("outputAt(4)", shop.outputAt(4), 'd');
        shop.renderTrain(0);
        Check.refused("a shorter text", Tools.INDEX, () -> shop.outputAt(1));
    }
}
