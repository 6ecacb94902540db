/** Promises 52 to 55: the script buffer, scripts and their errors. */
public final class ScriptsTest {
    public static void main(String[] args) {
        type();
        everyCommand();
        errorPositions();
        fullBuffer();
        failures();
        allOrNone();
        positionsStay();
        earlierTextIsForgotten();
        Check.end("ScriptsTest");
    }

    private static void type() {
        PlanetWorkshop shop = new PlanetWorkshop();
        char[] wrong = {0, 31, 127, 255, 256, Character.MAX_VALUE};
        for (char sign : wrong) {
            Check.refused("type of " + (int) sign, Tools.ARGUMENT, () -> shop.type(sign));
        }
        Check.same("type of 32", shop.type(' '), 1);
        Check.same("type of 126", shop.type('~'), 2);
        for (int length = 3; length <= 60; length++) {
            Check.same("type", shop.type('x'), length);
        }
        Check.refused("a 61st character", Tools.STATE, () -> shop.type('x'));
        Check.refused("a wrong 61st character", Tools.ARGUMENT, () -> shop.type((char) 31));
        Check.refused("runScript", Tools.ARGUMENT, shop::runScript);
        Check.same("the buffer is empty", shop.type('x'), 1);
        Check.refused("undo", Tools.MISSING, shop::undo);
        Check.same("undo leaves the buffer", shop.type('x'), 2);
    }

    private static void everyCommand() {
        PlanetWorkshop shop = new PlanetWorkshop();
        Check.same("three gears", Tools.run(shop, "gear 20;gear 60;gear 012"), 3);
        Check.same("teeth(2)", shop.teeth(2), 12);
        Check.same("joints", Tools.run(shop, "mesh 01;axle 12"), 2);
        Check.same("joint(0, 1)", shop.joint(0, 1), 'm');
        Check.same("joint(1, 2)", shop.joint(1, 2), 'a');
        Check.same("cut", Tools.run(shop, "cut 21"), 1);
        Check.same("jointCount", shop.jointCount(), 1);
        Check.same("springs", Tools.run(shop, "spring 0 200;wind 0 7;wind 0 93;reverse 0"), 4);
        Check.same("the gear", Tools.gearText(shop, 0), "0:20ds100/200-");
        Check.same("run", Tools.run(shop, "run 0 4"), 1);
        Check.same("tension(0)", shop.tension(0), 84);
        Check.same("angle(1)", shop.angle(1), Tools.TURN / 3);
        Check.same("ratchets", Tools.run(shop, "ratchet 1;ratchet 2;free 2"), 3);
        Check.yes("hasRatchet(1)", shop.hasRatchet(1));
        Check.no("hasRatchet(2)", shop.hasRatchet(2));
        Check.same("oil", Tools.run(shop, "oil 2;buy 50"), 2);
        Check.no("isDry(2)", shop.isDry(2));
        Check.same("drops", shop.drops(), 61);
        Check.same("planets", Tools.run(shop, "planet 2;planet 0"), 2);
        Check.same("gearOf(0)", shop.gearOf(0), 2);
        Check.same("gearOf(1)", shop.gearOf(1), 0);
        Check.same("ten commands", Tools.run(shop,
                "buy 1;buy 1;buy 1;buy 1;buy 1;buy 1;buy 1;buy 1;buy 1;buy 01"), 10);
        Check.same("drops", shop.drops(), 71);
        Check.same("a script is one change", shop.undo(), 7);
        Check.same("drops", shop.drops(), 61);
    }

    private static void wrongAt(int position, String text) {
        PlanetWorkshop shop = Tools.withGears(20, 60);
        Tools.typeText(shop, text);
        Check.refused("[" + text + "]", Tools.ARGUMENT, shop::runScript);
        Check.same("errorPosition of [" + text + "]", shop.errorPosition(), position);
        Check.refused("failedCommand", Tools.MISSING, shop::failedCommand);
        Check.same("no command is carried out", shop.gearCount(), 2);
        Check.same("nothing to undo is new", shop.undo(), 1);
        Check.same("the buffer is empty", shop.type('x'), 1);
    }

    private static void errorPositions() {
        wrongAt(0, "");
        wrongAt(0, ";");
        wrongAt(0, " ");
        wrongAt(0, "x");
        wrongAt(0, "Gear 6");
        wrongAt(1, "g");
        wrongAt(2, "gexr 6");
        wrongAt(4, "gear");
        wrongAt(4, "gear6");
        wrongAt(5, "gear ");
        wrongAt(5, "gear  6");
        wrongAt(5, "gear -6");
        wrongAt(5, "gear x");
        wrongAt(8, "gear 1234");
        wrongAt(7, "gear 12 ");
        wrongAt(6, "gear 6,gear 6");
        wrongAt(7, "gear 6;");
        wrongAt(7, "gear 6;;gear 6");
        wrongAt(7, "gear 6; gear 6");
        wrongAt(8, "gear 6;r");
        wrongAt(8, "gear 6;rx");
        wrongAt(1, "r");
        wrongAt(2, "re");
        wrongAt(2, "ra");
        wrongAt(2, "ru");
        wrongAt(2, "rex");
        wrongAt(2, "rax");
        wrongAt(2, "rux");
        wrongAt(3, "run");
        wrongAt(3, "rune 0 1");
        wrongAt(1, "rn 0");
        wrongAt(2, "bu");
        wrongAt(3, "buy");
        wrongAt(1, "m");
        wrongAt(5, "mesh ");
        wrongAt(6, "mesh 0");
        wrongAt(6, "mesh 0 1");
        wrongAt(7, "mesh 012");
        wrongAt(6, "axle 0x");
        wrongAt(5, "cut 0");
        wrongAt(6, "cut 012");
        wrongAt(8, "spring 0");
        wrongAt(8, "spring 00 20");
        wrongAt(9, "spring 0 ");
        wrongAt(9, "spring 0 x");
        wrongAt(9, "spring 0  20");
        wrongAt(12, "spring 0 1234");
        wrongAt(2, "spin 0 20");
        wrongAt(6, "wind 0");
        wrongAt(6, "wind 0;");
        wrongAt(7, "wind 0 ");
        wrongAt(8, "reverse ");
        wrongAt(9, "reverse 00");
        wrongAt(9, "reverse 0 1");
        wrongAt(9, "ratchet 0 1");
        wrongAt(6, "free 0x");
        wrongAt(5, "oil 00");
        wrongAt(8, "planet 0 ");
        wrongAt(7, "planet x");
        wrongAt(5, "gear :");
        wrongAt(5, "gear /");
    }

    private static void fullBuffer() {
        String text = "buy 1;buy 1;buy 1;buy 1;buy 1;buy 1;buy 1;buy 1;buy 1;buy 1;";
        wrongAt(60, text);
        wrongAt(60, text.substring(0, 54) + "revers");
        wrongAt(60, text.substring(0, 54) + "wind 0");
        wrongAt(60, text.substring(0, 54) + "mesh 0");
        wrongAt(60, text.substring(0, 48) + "spring 0 9;b");
        PlanetWorkshop shop = new PlanetWorkshop();
        Check.same("59 characters", Tools.run(shop, text.substring(0, 59)), 10);
        Check.same("drops", shop.drops(), 22);
        Check.same("60 characters", Tools.run(shop, text.substring(0, 54) + "buy 10"), 10);
        Check.same("drops", shop.drops(), 41);
    }

    private static void failsAt(PlanetWorkshop shop, int command, String text) {
        Tools.typeText(shop, text);
        Check.refused("[" + text + "]", Tools.STATE, shop::runScript);
        Check.same("failedCommand of [" + text + "]", shop.failedCommand(), command);
        Check.same("the buffer is empty", shop.type('x'), 1);
        Check.refused("and wrong", Tools.ARGUMENT, shop::runScript);
    }

    private static void failures() {
        PlanetWorkshop shop = Tools.withGears(20, 60);
        failsAt(shop, 0, "gear 7");
        failsAt(shop, 1, "gear 6;gear 999");
        failsAt(shop, 0, "mesh 00");
        failsAt(shop, 0, "mesh 09");
        failsAt(shop, 1, "mesh 01;axle 10");
        failsAt(shop, 0, "axle 22");
        failsAt(shop, 0, "cut 01");
        failsAt(shop, 0, "spring 0 9");
        failsAt(shop, 0, "spring 2 10");
        failsAt(shop, 0, "wind 0 5");
        failsAt(shop, 2, "spring 0 10;wind 0 8;wind 0 3");
        failsAt(shop, 0, "reverse 0");
        failsAt(shop, 0, "run 0 1");
        failsAt(shop, 1, "spring 0 10;run 0 0");
        failsAt(shop, 2, "ratchet 0;free 0;ratchet 2");
        failsAt(shop, 0, "free 5");
        failsAt(shop, 1, "oil 0;oil 0");
        failsAt(shop, 0, "buy 0");
        failsAt(shop, 1, "buy 50;buy 38");
        failsAt(shop, 1, "planet 0;planet 0");
        failsAt(shop, 0, "planet 2");
        failsAt(shop, 4, "spring 0 20;reverse 0;wind 0 20;ratchet 0;run 0 1");
        Check.same("gearCount", shop.gearCount(), 2);
        Check.same("drops", shop.drops(), 12);
        Check.same("planetCount", shop.planetCount(), 0);
        Check.same("only the gears can be undone", shop.undo(), 1);
    }

    private static void allOrNone() {
        PlanetWorkshop shop = Tools.withGears(20, 60);
        Tools.run(shop, "mesh 01;spring 0 99;wind 0 50;oil 0;planet 1");
        shop.release(0, 2);
        Check.same("angle(1)", shop.angle(1), Tools.TURN / 3);
        failsAt(shop, 4, "run 0 5;wind 0 9;gear 30;reverse 0;cut 12");
        Check.same("angle(1)", shop.angle(1), Tools.TURN / 3);
        Check.same("wear(0)", shop.wear(0), 2);
        Check.same("woundTotal", shop.woundTotal(), 50);
        Check.same("tensionByAccounts", shop.tensionByAccounts(), 44);
        Check.same("releaseTotal", shop.releaseTotal(), 1);
        Check.same("gearCount", shop.gearCount(), 2);
        Check.same("the gear", Tools.gearText(shop, 0), "0:20s44/99");
        Check.same("undo", shop.undo(), 3);
        Check.same("undo", shop.undo(), 2);
        Check.same("planetCount", shop.planetCount(), 0);
    }

    /** A shorter script must not be continued by the signs of a longer one before it. */
    private static void earlierTextIsForgotten() {
        PlanetWorkshop shop = Tools.withGears(20, 60);
        Tools.run(shop, "spring 0 99;wind 0 55");
        Tools.typeText(shop, "spring 0");
        Check.refused("runScript", Tools.ARGUMENT, shop::runScript);
        Check.same("errorPosition", shop.errorPosition(), 8);
        Tools.typeText(shop, "buy 10");
        shop.runScript();
        Tools.run(shop, "buy 1");
        Check.same("drops", shop.drops(), 23);
        Tools.typeText(shop, "buy 1;buy 1");
        shop.runScript();
        Check.same("one command", Tools.run(shop, "buy 1"), 1);
        Tools.typeText(shop, "mesh 01");
        shop.runScript();
        Tools.typeText(shop, "mesh");
        Check.refused("runScript", Tools.ARGUMENT, shop::runScript);
        Check.same("errorPosition", shop.errorPosition(), 4);
    }

    private static void positionsStay() {
        PlanetWorkshop shop = new PlanetWorkshop();
        Check.refused("errorPosition", Tools.MISSING, shop::errorPosition);
        Check.refused("failedCommand", Tools.MISSING, shop::failedCommand);
        Check.refused("an empty script", Tools.ARGUMENT, shop::runScript);
        Check.same("errorPosition", shop.errorPosition(), 0);
        Tools.typeText(shop, "gear 6;gear x");
        Check.refused("runScript", Tools.ARGUMENT, shop::runScript);
        Check.same("errorPosition", shop.errorPosition(), 12);
        Tools.typeText(shop, "gear 6;gear 7");
        Check.refused("runScript", Tools.STATE, shop::runScript);
        Check.same("failedCommand", shop.failedCommand(), 1);
        Check.same("errorPosition stays", shop.errorPosition(), 12);
        shop.save();
        Check.same("a right script", Tools.run(shop, "gear 6"), 1);
        Check.same("errorPosition stays", shop.errorPosition(), 12);
        Check.same("failedCommand stays", shop.failedCommand(), 1);
        shop.undo();
        Check.same("undo leaves them", shop.errorPosition(), 12);
        shop.restore();
        Check.same("restore leaves them", shop.errorPosition(), 12);
        Check.same("restore leaves them", shop.failedCommand(), 1);
        Tools.typeText(shop, "oil 0");
        Check.refused("runScript", Tools.STATE, shop::runScript);
        Check.same("failedCommand", shop.failedCommand(), 0);
        Tools.typeText(shop, "ge");
        shop.save();
        shop.restore();
        Check.same("restore leaves the buffer", shop.type('a'), 3);
    }
}
