/** What several tests need: workshops that are built in one line, and short names. */
final class Tools {
    static final long TURN = 24883200000L;
    static final Class<IndexOutOfBoundsException> INDEX = IndexOutOfBoundsException.class;
    static final Class<IllegalArgumentException> ARGUMENT = IllegalArgumentException.class;
    static final Class<IllegalStateException> STATE = IllegalStateException.class;
    static final Class<java.util.NoSuchElementException> MISSING =
            java.util.NoSuchElementException.class;
    static final Class<UnsupportedOperationException> UNSUPPORTED =
            UnsupportedOperationException.class;

    private Tools() {
    }

    static PlanetWorkshop withGears(int... teeth) {
        PlanetWorkshop shop = new PlanetWorkshop();
        for (int number : teeth) {
            shop.addGear(number);
        }
        return shop;
    }

    static int typeText(PlanetWorkshop shop, String text) {
        int length = -1;
        for (int i = 0; i < text.length(); i++) {
            length = shop.type(text.charAt(i));
        }
        return length;
    }

    static int run(PlanetWorkshop shop, String text) {
        typeText(shop, text);
        return shop.runScript();
    }

    static String output(PlanetWorkshop shop, int length) {
        StringBuilder text = new StringBuilder();
        for (int i = 0; i < length; i++) {
            text.append(shop.outputAt(i));
        }
        Check.refused("outputAt behind the end", INDEX, () -> shop.outputAt(length));
        return text.toString();
    }

    static String gearText(PlanetWorkshop shop, int gear) {
        return output(shop, shop.renderGear(gear));
    }

    static String trainText(PlanetWorkshop shop, int gear) {
        return output(shop, shop.renderTrain(gear));
    }
}
