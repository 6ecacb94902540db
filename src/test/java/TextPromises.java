/** The sentences of promises 49 to 51: the output text. */
final class TextPromises {
    private static final String NO_GEAR = "Throws IndexOutOfBoundsException if there is no such gear";
    private static final String RETURNS_LENGTH = "Returns the length of the output text.";

    private TextPromises() {
    }

    static void tell(Sentences told) {
        told.promise(49, "Replaces the output text by a description of a gear: its index, \":\" and its "
                + "teeth, \"d\" if it is dry, \"r\" if it has a ratchet, and, if there is a spring in it, "
                + "\"s\", its tension, \"/\" and its size, with \"-\" behind it if it is reversed; as in "
                + "\"3:24drs40/100-\".", TextPromises::descriptions);
        told.promise(49, RETURNS_LENGTH, TextPromises::shortestAndLongest);
        told.promise(49, NO_GEAR, () -> Calls.noSuchGear(PlanetWorkshop::renderGear));
        told.promise(50, "Replaces the output text by the gears of the train of a gear in ascending "
                + "order, separated by commas, with \"*\" behind each gear that carries a planet; as in "
                + "\"0,2*,5\".", TextPromises::trains);
        told.promise(50, RETURNS_LENGTH, TextPromises::shortestAndLongestTrain);
        told.promise(50, NO_GEAR, () -> Calls.noSuchGear(PlanetWorkshop::renderTrain));
        told.promise(51, "Returns a character of the output text, which is empty initially.",
                TextPromises::emptyInitially);
        told.promise(51, "Returns the character.", TextPromises::characters);
        told.promise(51, "Throws IndexOutOfBoundsException if there is no such index",
                TextPromises::noSuchIndex);
    }

    private static void descriptions() {
        for (int code = 0; code < 16; code++) {
            boolean isOiled = code % 2 == 1;
            boolean hasRatchet = code / 2 % 2 == 1;
            boolean isReversed = code / 4 % 2 == 1;
            PlanetWorkshop shop = Tools.withGears(20, 60, 12, 24);
            if (isOiled) {
                shop.oil(3);
            }
            shop.setRatchet(3, hasRatchet);
            String due = "3:24" + (isOiled ? "" : "d") + (hasRatchet ? "r" : "");
            if (code / 8 == 1) {
                Tools.run(shop, "spring 3 100;wind 3 40");
                due += "s40/100";
            }
            if (code / 8 == 1 && isReversed) {
                shop.reverse(3);
                due += "-";
            }
            Check.same("a description", Tools.gearText(shop, 3), due);
            Check.same("its length", shop.renderGear(3), due.length());
        }
        Check.same("a spring elsewhere", Tools.gearText(Shops.rich(), 1), "1:60");
    }

    private static void shortestAndLongest() {
        PlanetWorkshop shop = Tools.withGears(6, 8);
        shop.oil(0);
        Check.same("the shortest", shop.renderGear(0), 3);
        Check.same("the shortest", View.text(shop), "0:6");
        Tools.run(shop, "spring 1 200;wind 1 200;reverse 1;ratchet 1");
        Check.same("a long one", shop.renderGear(1), 14);
        Check.same("a long one", View.text(shop), "1:8drs200/200-");
        PlanetWorkshop full = Tools.withGears(6, 8, 10, 12, 15, 20, 24, 30, 40, 60);
        Tools.run(full, "spring 9 200;wind 9 200;reverse 9;ratchet 9");
        Check.same("the longest", full.renderGear(9), 15);
        Check.same("the longest", View.text(full), "9:60drs200/200-");
        full.undo();
        Check.same("the text stays", View.text(full), "9:60drs200/200-");
        Check.same("a shorter one replaces it", full.renderGear(0), 4);
        Check.same("a shorter one replaces it", View.text(full), "0:6d");
        Check.same("no tension", Tools.gearText(slack(), 0), "0:6ds0/10");
    }

    private static PlanetWorkshop slack() {
        PlanetWorkshop shop = Tools.withGears(6);
        shop.setSpring(0, 10);
        return shop;
    }

    private static void trains() {
        PlanetWorkshop shop = Tools.withGears(20, 60, 12, 15, 30, 24);
        Tools.run(shop, "mesh 52;mesh 20;planet 2;planet 1");
        int[] members = {0, 2, 5};
        for (int gear : members) {
            Check.same("the train of " + gear, Tools.trainText(shop, gear), "0,2*,5");
        }
        Check.same("the train of 1", Tools.trainText(shop, 1), "1*");
        Check.same("the train of 3", Tools.trainText(shop, 3), "3");
        shop.addPlanet(5);
        Check.same("a planet on the last", Tools.trainText(shop, 0), "0,2*,5*");
        shop.addPlanet(0);
        Check.same("a planet on the first", Tools.trainText(shop, 0), "0*,2*,5*");
        shop.separate(0, 2);
        Check.same("the train of 0", Tools.trainText(shop, 0), "0*");
        Check.same("the train of 5", Tools.trainText(shop, 5), "2*,5*");
    }

    private static void shortestAndLongestTrain() {
        Check.same("the shortest", Tools.withGears(6).renderTrain(0), 1);
        PlanetWorkshop full = Shops.full();
        Check.same("the longest", full.renderTrain(0), 25);
        Check.same("the longest", View.text(full), "0,1,2,3,4*,5*,6*,7*,8*,9*");
        full.renderGear(0);
        Check.same("a shorter one replaces it", View.text(full), "0:6d");
        full.renderTrain(9);
        Check.same("the train of 9", View.text(full), "0,1,2,3,4*,5*,6*,7*,8*,9*");
    }

    private static void emptyInitially() {
        PlanetWorkshop shop = new PlanetWorkshop();
        Check.refused("outputAt(0)", Tools.INDEX, () -> shop.outputAt(0));
        shop.addGear(20);
        Check.refused("outputAt(0) with a gear", Tools.INDEX, () -> shop.outputAt(0));
        Check.refused("renderGear(1)", Tools.INDEX, () -> shop.renderGear(1));
        Check.refused("outputAt(0) after a refused call", Tools.INDEX, () -> shop.outputAt(0));
        shop.type('a');
        Check.refused("outputAt(0) after type", Tools.INDEX, () -> shop.outputAt(0));
    }

    private static void characters() {
        String due = "3:15ds5/30-";
        for (int index = 0; index < due.length(); index++) {
            Calls.query("outputAt", Shops::rich, PlanetWorkshop::outputAt, index, due.charAt(index));
        }
    }

    private static void noSuchIndex() {
        View.refused("outputAt(-1)", Tools.INDEX, Shops::rich, shop -> shop.outputAt(-1));
        View.refused("outputAt(11)", Tools.INDEX, Shops::rich, shop -> shop.outputAt(11));
        Check.same("outputAt(10)", Shops.rich().outputAt(10), '-');
        for (int far : Shops.FAR) {
            if (far != 10) {
                Check.refused("outputAt(" + far + ")", Tools.INDEX, () -> Shops.rich().outputAt(far));
            }
        }
        PlanetWorkshop shop = Shops.rich();
        shop.renderTrain(0);
        Check.same("outputAt(2)", shop.outputAt(2), '1');
        Check.same("outputAt(3)", shop.outputAt(3), '*');
        Check.refused("outputAt(4) of the shorter text", Tools.INDEX, () -> shop.outputAt(4));
        Check.refused("outputAt(10) of the shorter text", Tools.INDEX, () -> shop.outputAt(10));
    }
}
