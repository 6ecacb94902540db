/** The sentences of promises 52 to 55: the script buffer, scripts and their failures. */
final class ScriptPromises {
    private static final String SIXTY = "buy 1;buy 1;buy 1;buy 1;buy 1;buy 1;buy 1;buy 1;buy 1;buy 10";

    private ScriptPromises() {
    }

    static void tell(Sentences told) {
        told.promise(52, "Appends a character to the script buffer.", ScriptPromises::appends);
        told.promise(52, "Returns the length of the script buffer.", ScriptPromises::lengths);
        told.promise(52, "Throws IllegalArgumentException if the character code is not between 32 and "
                + "126", ScriptPromises::wrongCharacters);
        told.promise(52, "Throws IllegalStateException if the script buffer has 60 characters",
                ScriptPromises::sixtyCharacters);
        String runs = "Runs the script in the script buffer. The buffer is empty afterwards, also if an "
                + "exception is thrown.";
        told.promise(53, runs, ScriptPromises::emptyAfterwards);
        told.promise(53, runs, ScriptPromises::earlierTextIsGone);
        told.promise(53, "Returns the number of commands.", ScriptPromises::numberOfCommands);
        told.promise(53, "Throws IllegalArgumentException if the script does not have the required "
                + "form; errorPosition then returns its error position", ScriptPromises::wrongForm);
        String fails = "Throws IllegalStateException if the method for a command throws an exception; "
                + "no command takes effect, and failedCommand then returns the index of that command";
        told.promise(53, fails, ScriptPromises::failures);
        told.promise(53, fails, ScriptPromises::noneTakesEffect);
        told.promise(53, fails, ScriptPromises::firstAndLastCommand);
        told.promise(54, "Returns the error position of the latest script that did not have the "
                + "required form.", ScriptPromises::latestErrorPosition);
        told.promise(54, "Returns the error position.", ScriptPromises::leastAndGreatestPosition);
        told.promise(54, "Throws NoSuchElementException if there was no such script",
                ScriptPromises::noErrorPosition);
        told.promise(55, "Returns the index of the command that failed in the latest script with a "
                + "failed command.", ScriptPromises::latestFailedCommand);
        told.promise(55, "Returns the index of the command, counted from 0.",
                ScriptPromises::firstAndLastCommand);
        told.promise(55, "Throws NoSuchElementException if there was no such script",
                ScriptPromises::noFailedCommand);
    }

    private static void appends() {
        PlanetWorkshop shop = new PlanetWorkshop();
        Tools.typeText(shop, "buy 2");
        shop.drops();
        Tools.typeText(shop, "3;gear");
        shop.isConsistent();
        Tools.typeText(shop, " 60");
        Check.same("runScript()", shop.runScript(), 2);
        Check.same("drops()", shop.drops(), 35);
        Check.same("teeth(0)", shop.teeth(0), 60);
    }

    private static void lengths() {
        PlanetWorkshop shop = new PlanetWorkshop();
        for (int length = 1; length <= 60; length++) {
            Check.same("type", shop.type((char) (31 + length)), length);
        }
        PlanetWorkshop rich = Shops.rich();
        Check.same("behind 5 characters", rich.type(';'), 6);
        rich.undo();
        Check.same("after undo", rich.type('b'), 7);
        rich.restore();
        Check.same("after restore", rich.type('u'), 8);
    }

    private static void wrongCharacters() {
        for (int code = 0; code <= 300; code++) {
            final char sign = (char) code;
            if (code < 32 || code > 126) {
                Check.refused("type of " + code, Tools.ARGUMENT, () -> Shops.rich().type(sign));
                Check.refused("type of " + code + " behind 60", Tools.ARGUMENT,
                        () -> Shops.full().type(sign));
            } else {
                Check.same("type of " + code, Shops.rich().type(sign), 6);
            }
        }
        char[] wrong = {0, '\n', 31, 127, 128, 255, 256 + 'a', 0x8000, 0xFFFF};
        for (char sign : wrong) {
            View.refused("type of " + (int) sign, Tools.ARGUMENT, Shops::rich,
                    shop -> shop.type(sign));
        }
    }

    private static void sixtyCharacters() {
        char[] signs = {' ', '0', ';', 'a', '~'};
        for (char sign : signs) {
            View.refused("type behind 60", Tools.STATE, Shops::full, shop -> shop.type(sign));
        }
        PlanetWorkshop shop = new PlanetWorkshop();
        Check.same("59 characters", Tools.typeText(shop, SIXTY.substring(0, 59)), 59);
        Check.same("60 characters", shop.type('0'), 60);
        Check.refused("61 characters", Tools.STATE, () -> shop.type('0'));
        Check.same("the script is as it was", shop.runScript(), 10);
        Check.same("drops()", shop.drops(), 31);
        Check.same("the buffer is empty", shop.type('0'), 1);
    }

    private static void emptyAfterwards() {
        PlanetWorkshop shop = new PlanetWorkshop();
        Check.same("a script", Tools.run(shop, SIXTY), 10);
        Check.same("after a script", shop.type('x'), 1);
        Check.refused("a wrong form", Tools.ARGUMENT, shop::runScript);
        Check.same("after a wrong form", Tools.typeText(shop, "gear 7"), 6);
        Check.refused("a failed command", Tools.STATE, shop::runScript);
        Check.same("after a failed command", shop.type('x'), 1);
        Check.refused("a wrong form again", Tools.ARGUMENT, shop::runScript);
        Check.refused("the empty script", Tools.ARGUMENT, shop::runScript);
        Check.refused("the empty script again", Tools.ARGUMENT, shop::runScript);
        Check.same("after the empty script", shop.type('x'), 1);
    }

    /** Neither signs nor commands nor numbers of an earlier script have a part in a later one. */
    private static void earlierTextIsGone() {
        PlanetWorkshop shop = Tools.withGears(20, 60);
        Tools.run(shop, "spring 0 150;wind 0 150;mesh 01;oil 0;oil 1");
        Tools.typeText(shop, "spring 1");
        Check.refused("half a command", Tools.ARGUMENT, shop::runScript);
        Check.same("errorPosition()", shop.errorPosition(), 8);
        Check.same("one command", Tools.run(shop, "buy 1"), 1);
        Check.same("drops()", shop.drops(), 11);
        Tools.typeText(shop, "buy");
        Check.refused("a third of a command", Tools.ARGUMENT, shop::runScript);
        Check.same("errorPosition()", shop.errorPosition(), 3);
        Check.refused("nothing", Tools.ARGUMENT, shop::runScript);
        Check.same("errorPosition()", shop.errorPosition(), 0);
    }

    private static void numberOfCommands() {
        for (int commands = 1; commands <= 10; commands++) {
            PlanetWorkshop shop = new PlanetWorkshop();
            Check.same("runScript()", Tools.run(shop, SIXTY.substring(0, 6 * commands - 1)), commands);
            Check.same("drops()", shop.drops(), 12 + commands);
        }
    }

    private static void wrongForm() {
        String[] wrong = {"", ";", "gear", "gear 1234", "gear 6;", "buy 1;gear 20;oil", "buy 1; buy 1",
            "spring 0", "mesh 0", "mesh 0 1", "Gear 6", "gear 20;gear 20;", "ratchet 0 1"};
        int[] positions = {0, 0, 4, 8, 7, 17, 6, 8, 6, 6, 0, 16, 9};
        for (int index = 0; index < wrong.length; index++) {
            String text = wrong[index];
            PlanetWorkshop shop = plain();
            Tools.typeText(shop, text);
            Check.refused("[" + text + "]", Tools.ARGUMENT, shop::runScript);
            Check.same("errorPosition() of [" + text + "]", shop.errorPosition(), positions[index]);
            Check.refused("failedCommand()", Tools.MISSING, shop::failedCommand);
            View.alike("[" + text + "]", ScriptPromises::plain, () -> {
                PlanetWorkshop failed = plain();
                Shops.fail(failed, text);
                return failed;
            });
        }
    }

    private static PlanetWorkshop plain() {
        PlanetWorkshop shop = Tools.withGears(20, 60, 12);
        Tools.run(shop, "mesh 01;spring 0 100;wind 0 40;run 0 1;planet 0");
        shop.save();
        shop.buyOil(3);
        shop.renderGear(0);
        return shop;
    }

    /** Each command for each exception of its method. */
    private static void failures() {
        String[] wrong = {"gear 0", "gear 7", "gear 999", "mesh 03", "mesh 30", "mesh 11", "mesh 10",
            "axle 03", "axle 30", "axle 22", "axle 01", "cut 03", "cut 30", "cut 02", "cut 00",
            "spring 3 20", "spring 2 9", "spring 2 201", "spring 1 20", "wind 3 1", "wind 0 0",
            "wind 0 201", "wind 1 1", "wind 0 65", "reverse 3", "reverse 2", "run 3 1", "run 0 0",
            "run 0 51", "run 1 1", "ratchet 3", "ratchet 9", "free 3", "oil 3", "buy 0", "buy 51",
            "planet 3", "planet 0"};
        for (String text : wrong) {
            failsAt(0, text);
        }
        failsAt(1, "ratchet 1;run 0 1");
        failsAt(1, "oil 0;oil 0");
        failsAt(2, "buy 50;buy 34;buy 1");
        failsAt(3, "axle 02;cut 01;axle 12;mesh 01");
        failsAt(1, "spring 2 50;axle 12");
        failsAt(2, "mesh 12;oil 0;mesh 02");
        failsAt(4, "planet 1;gear 6;planet 2;planet 3;planet 4");
        failsAt(7, "gear 6;gear 6;gear 6;gear 6;gear 6;gear 6;gear 6;gear 6");
    }

    private static void failsAt(int command, String text) {
        PlanetWorkshop shop = plain();
        Tools.typeText(shop, text);
        Check.refused("[" + text + "]", Tools.STATE, shop::runScript);
        Check.same("failedCommand() of [" + text + "]", shop.failedCommand(), command);
        Check.refused("errorPosition()", Tools.MISSING, shop::errorPosition);
        Check.same("the buffer is empty", shop.type('x'), 1);
        View.alike("[" + text + "]", ScriptPromises::plain, () -> {
            PlanetWorkshop failed = plain();
            Shops.fail(failed, text);
            return failed;
        });
    }

    /** Every command works before the one that fails, and every one is taken back. */
    private static void noneTakesEffect() {
        String[] right = {"gear 60", "mesh 12", "axle 12", "cut 01", "spring 2 77", "wind 0 9",
            "reverse 0", "run 0 9", "ratchet 0", "free 0", "oil 0", "buy 50", "planet 1"};
        for (String text : right) {
            Check.same(text + " alone", Tools.run(plain(), text), 1);
            failsAt(1, text + ";gear 7");
            failsAt(2, text + ";ratchet 2;mesh 22");
        }
    }

    private static void firstAndLastCommand() {
        failsAt(0, "buy 0;buy 1;buy 1;buy 1;buy 1;buy 1;buy 1;buy 1;buy 1;buy 1");
        failsAt(9, "buy 1;buy 1;buy 1;buy 1;buy 1;buy 1;buy 1;buy 1;buy 1;buy 0");
        failsAt(9, "buy 1;buy 1;buy 1;buy 1;buy 1;buy 1;buy 1;buy 1;buy 1;buy 51");
        failsAt(4, "buy 1;buy 1;buy 1;buy 1;buy 0;buy 1;buy 0;buy 1;buy 0;buy 1");
    }

    private static void latestErrorPosition() {
        PlanetWorkshop shop = new PlanetWorkshop();
        Shops.fail(shop, "gear x");
        Check.same("errorPosition()", shop.errorPosition(), 5);
        Shops.fail(shop, "gear 20;gear ");
        Check.same("a later one", shop.errorPosition(), 13);
        Shops.fail(shop, "b");
        Check.same("a lower one", shop.errorPosition(), 1);
        Shops.fail(shop, "gear 7");
        Check.same("after a failed command", shop.errorPosition(), 1);
        Tools.run(shop, "gear 6");
        Check.same("after a right script", shop.errorPosition(), 1);
        shop.undo();
        Check.same("after undo", shop.errorPosition(), 1);
        View.unchanged("errorPosition()", Shops::rich, PlanetWorkshop::errorPosition);
        Check.same("of a rich workshop", Shops.rich().errorPosition(), 9);
    }

    private static void leastAndGreatestPosition() {
        PlanetWorkshop shop = new PlanetWorkshop();
        Shops.fail(shop, "");
        Check.same("of the empty script", shop.errorPosition(), 0);
        String text = SIXTY.substring(0, 54);
        Shops.fail(shop, text + "buy  1");
        Check.same("two before the end", shop.errorPosition(), 58);
        Shops.fail(shop, text + "mesh x");
        Check.same("at the last character", shop.errorPosition(), 59);
        Shops.fail(shop, text + "mesh 0");
        Check.same("behind the last character", shop.errorPosition(), 60);
        Shops.fail(shop, text + "buy 1;");
        Check.same("behind the last semicolon", shop.errorPosition(), 60);
    }

    private static void noErrorPosition() {
        View.refused("errorPosition()", Tools.MISSING, PlanetWorkshop::new,
                PlanetWorkshop::errorPosition);
        PlanetWorkshop shop = new PlanetWorkshop();
        Tools.run(shop, "gear 6");
        Check.refused("after a right script", Tools.MISSING, shop::errorPosition);
        Shops.fail(shop, "gear 7");
        Check.refused("after a failed command", Tools.MISSING, shop::errorPosition);
        Tools.typeText(shop, "x");
        Check.refused("before it is run", Tools.MISSING, shop::errorPosition);
        Check.refused("runScript()", Tools.ARGUMENT, shop::runScript);
        Check.same("when it is run", shop.errorPosition(), 0);
    }

    private static void latestFailedCommand() {
        PlanetWorkshop shop = new PlanetWorkshop();
        Shops.fail(shop, "buy 1;buy 1;buy 0");
        Check.same("failedCommand()", shop.failedCommand(), 2);
        Shops.fail(shop, "buy 1;gear 9");
        Check.same("a lower one", shop.failedCommand(), 1);
        Shops.fail(shop, "buy 0;buy");
        Check.same("after a wrong form", shop.failedCommand(), 1);
        Tools.run(shop, "buy 1;buy 1;buy 1");
        Check.same("after a right script", shop.failedCommand(), 1);
        shop.undo();
        Check.same("after undo", shop.failedCommand(), 1);
        shop.save();
        Shops.fail(shop, "oil 0");
        shop.restore();
        Check.same("after restore", shop.failedCommand(), 0);
        View.unchanged("failedCommand()", Shops::rich, PlanetWorkshop::failedCommand);
        Check.same("of a rich workshop", Shops.rich().failedCommand(), 1);
    }

    private static void noFailedCommand() {
        View.refused("failedCommand()", Tools.MISSING, PlanetWorkshop::new,
                PlanetWorkshop::failedCommand);
        PlanetWorkshop shop = new PlanetWorkshop();
        Tools.run(shop, "gear 6");
        Check.refused("after a right script", Tools.MISSING, shop::failedCommand);
        Shops.fail(shop, "gear 7;gear");
        Check.refused("after a wrong form", Tools.MISSING, shop::failedCommand);
        Check.refused("a failed method", Tools.ARGUMENT, () -> shop.addGear(7));
        Check.refused("which is no command", Tools.MISSING, shop::failedCommand);
        Shops.fail(shop, "gear 7");
        Check.same("after a failed command", shop.failedCommand(), 0);
    }
}
