import java.util.ArrayList;
import java.util.List;
import java.util.function.Consumer;

/** The terms about scripts. */
final class ScriptTerms {
    /** Every command there is, with 0 for each digit. */
    private static final List<String> COMMANDS = new ArrayList<>();
    private static final String[] SCRIPTS = {"gear 20;mesh 01;axle 12;cut 01", "spring 0 100;wind 0 9",
        "reverse 0;run 0 50;ratchet 3;free 3", "oil 7;buy 12;planet 4", "run 1 1;reverse 1;ratchet 1",
        "buy 1;buy 1;buy 1;buy 1;buy 1;buy 1;buy 1;buy 1;buy 1;buy 10"};

    /** Commands, and the calls that each of them stands for. */
    private static final List<String> STEPS = List.of("mesh 10", "axle 12", "mesh 34", "cut 34",
            "spring 1 150", "spring 3 10", "wind 1 90", "wind 3 8", "reverse 3", "oil 2", "run 1 4",
            "run 3 3", "ratchet 4", "ratchet 2", "free 2", "buy 17", "planet 3", "planet 0",
            "gear 60");
    private static final List<Consumer<PlanetWorkshop>> CALLS = List.of(shop -> shop.mesh(1, 0),
            shop -> shop.shareAxle(1, 2), shop -> shop.mesh(3, 4), shop -> shop.separate(3, 4),
            shop -> shop.setSpring(1, 150), shop -> shop.setSpring(3, 10), shop -> shop.wind(1, 90),
            shop -> shop.wind(3, 8), shop -> shop.reverse(3), shop -> shop.oil(2),
            shop -> shop.release(1, 4), shop -> shop.release(3, 3), shop -> shop.setRatchet(4, true),
            shop -> shop.setRatchet(2, true), shop -> shop.setRatchet(2, false),
            shop -> shop.buyOil(17), shop -> shop.addPlanet(3), shop -> shop.addPlanet(0),
            shop -> shop.addGear(60));

    private ScriptTerms() {
    }

    static void tell(Sentences told) {
        listCommands();
        told.term("A script is typed into a buffer of at most 60 characters and then run.",
                ScriptTerms::buffer);
        told.term("It has the form", ScriptTerms::right);
        told.term("script = command { \";\" command}", ScriptTerms::commandsAndSemicolons);
        told.term("command = \"gear \" number | \"mesh \" digit digit | \"axle \" digit digit | \"cut \" "
                + "digit digit | \"spring \" digit \" \" number | \"wind \" digit \" \" number | "
                + "\"reverse \" digit | \"run \" digit \" \" number | \"ratchet \" digit | \"free \" digit "
                + "| \"oil \" digit | \"buy \" number | \"planet \" digit", ScriptTerms::eachCommand);
        told.term("number = digit [ digit [ digit ] ]", ScriptTerms::numbers);
        told.term("where braces mean zero or more repetitions, brackets an optional part, and a bar an "
                + "alternative.", ScriptTerms::right);
        told.term("The commands stand for the methods addGear, mesh, shareAxle, separate, setSpring, "
                + "wind, reverse, release, setRatchet with true, setRatchet with false, oil, buyOil and "
                + "addPlanet with the numbers as the first arguments in the order of the parameters.",
                ScriptTerms::methods);
        told.term("The commands are executed in order, and either all of them take effect or none.",
                ScriptTerms::inOrder);
        told.term("The commands are executed in order, and either all of them take effect or none.",
                ScriptTerms::allOrNone);
        String position = "The error position of a script that does not have this form is the index of "
                + "the first character that cannot continue any script of this form, or the length of "
                + "the script if every character can and the end comes too early.";
        told.term(position, ScriptTerms::tooShort);
        told.term(position, ScriptTerms::everyOtherCharacter);
        told.term(position, ScriptTerms::aCharacterMoreOrLess);
    }

    private static void listCommands() {
        String[] words = {"mesh 00", "axle 00", "cut 00", "reverse 0", "ratchet 0", "free 0", "oil 0",
            "planet 0"};
        COMMANDS.addAll(List.of(words));
        String[] withNumbers = {"gear ", "spring 0 ", "wind 0 ", "run 0 ", "buy "};
        for (String word : withNumbers) {
            COMMANDS.add(word + "0");
            COMMANDS.add(word + "00");
            COMMANDS.add(word + "000");
        }
    }

    /** The error position as the document tells it, or -1 for a script of the right form. */
    private static int due(String text) {
        String zeros = text.replaceAll("[0-9]", "0");
        int start = 0;
        for (int index = 0; index <= zeros.length(); index++) {
            String last = zeros.substring(start, index);
            if (COMMANDS.stream().noneMatch(command -> command.startsWith(last))) {
                return index - 1;
            }
            boolean isWhole = COMMANDS.contains(last);
            if (index == zeros.length()) {
                return isWhole ? -1 : index;
            }
            if (isWhole && zeros.charAt(index) == ';') {
                start = index + 1;
            }
        }
        return text.length();
    }

    private static void checkPosition(String text) {
        PlanetWorkshop shop = new PlanetWorkshop();
        Tools.typeText(shop, text);
        int got = -1;
        try {
            shop.runScript();
        } catch (IllegalArgumentException e) {
            got = shop.errorPosition();
        } catch (IllegalStateException e) {
            Check.yes("a command failed", shop.failedCommand() >= 0);
        }
        Check.same("the error position of [" + text + "]", got, due(text));
    }

    private static void buffer() {
        PlanetWorkshop shop = new PlanetWorkshop();
        String text = SCRIPTS[5];
        for (int index = 0; index < 60; index++) {
            Check.same("type", shop.type(text.charAt(index)), index + 1);
            Check.same("drops()", shop.drops(), 12);
        }
        Check.refused("type", Tools.STATE, () -> shop.type('0'));
        Check.same("runScript()", shop.runScript(), 10);
        Check.same("drops()", shop.drops(), 31);
        Check.same("type", shop.type(';'), 1);
    }

    private static void right() {
        for (String text : SCRIPTS) {
            Check.same("due of [" + text + "]", due(text), -1);
            checkPosition(text);
        }
        String[] wrong = {"", " ", ";", "gear", "mesh 0", "spring 0", "x"};
        for (String text : wrong) {
            checkPosition(text);
        }
    }

    private static void commandsAndSemicolons() {
        String[] texts = {"buy 1", "buy 1;buy 1", "buy 1;buy 1;buy 1", ";buy 1", "buy 1;", "buy 1;;buy 1",
            "buy 1 ;buy 1", "buy 1; buy 1", "buy 1,buy 1", "buy 1buy 1", "buy 1 buy 1", " buy 1",
            "buy 1 ", ";", ";;", "buy 1;buy 1;", "buy 1;b", "buy 1;x"};
        int[] positions = {-1, -1, -1, 0, 6, 6, 5, 6, 5, 5, 5, 0, 5, 0, 0, 12, 7, 6};
        for (int index = 0; index < texts.length; index++) {
            Check.same("due of [" + texts[index] + "]", due(texts[index]), positions[index]);
            checkPosition(texts[index]);
        }
    }

    private static void eachCommand() {
        for (String command : COMMANDS) {
            checkPosition(command);
            checkPosition(command + ";" + command);
            checkPosition(command.toUpperCase());
            checkPosition(command.replace('0', '9'));
            checkPosition(command.replace('0', '/'));
            checkPosition(command.replace('0', ':'));
            checkPosition(command.replaceAll("0+$", ""));
            checkPosition(command.replace(" ", ""));
            checkPosition(command.replace(" ", "  "));
        }
    }

    private static void numbers() {
        String[] drops = {"1", "01", "001", "50", "050", "9", "12"};
        int[] due = {1, 1, 1, 50, 50, 9, 12};
        for (int index = 0; index < drops.length; index++) {
            PlanetWorkshop shop = new PlanetWorkshop();
            Check.same("buy " + drops[index], Tools.run(shop, "buy " + drops[index]), 1);
            Check.same("drops()", shop.drops(), 12 + due[index]);
        }
        PlanetWorkshop shop = Tools.withGears(20);
        Check.same("spring 0 200", Tools.run(shop, "spring 0 200;wind 0 123;wind 0 077"), 3);
        Check.same("tension(0)", shop.tension(0), 200);
        String[] wrong = {"buy ", "buy 0001", "buy 1234", "wind 0 1000", "run 0 0050", "gear 0020",
            "spring 0 0100", "spring 00 10", "buy +1", "buy -1", "buy 1.", "buy 1a"};
        for (String text : wrong) {
            checkPosition(text);
        }
        int[] refused = {0, 51, 100, 999};
        for (int number : refused) {
            Check.refused("buy " + number, Tools.STATE,
                    () -> Tools.run(new PlanetWorkshop(), "buy " + number));
        }
    }

    /** After each step, what scripts made is what the methods make. */
    private static void methods() {
        String before = "";
        for (int steps = 0; steps <= STEPS.size(); steps++) {
            PlanetWorkshop shop = Tools.withGears(20, 60, 12, 15, 8);
            PlanetWorkshop due = Tools.withGears(20, 60, 12, 15, 8);
            for (int step = 0; step < steps; step++) {
                Tools.run(shop, STEPS.get(step));
                CALLS.get(step).accept(due);
            }
            String seen = View.state(due);
            Check.same("after " + steps + " steps", View.state(shop), seen);
            Check.no("step " + steps + " changes nothing", seen.equals(before));
            before = seen;
        }
    }

    private static void inOrder() {
        PlanetWorkshop shop = new PlanetWorkshop();
        Check.same("runScript()", Tools.run(shop, "gear 20;gear 60;mesh 01;cut 10;axle 01;planet 1"), 6);
        Check.same("joint(0, 1)", shop.joint(0, 1), 'a');
        Check.same("teeth(1)", shop.teeth(1), 60);
        Tools.run(shop, "spring 0 90;wind 0 80;run 0 3;reverse 0");
        Tools.run(shop, "cut 01;mesh 01;run 0 2");
        Check.same("angle(1)", shop.angle(1), Tools.TURN / 3 * 2);
        Check.same("tension(0)", shop.tension(0), 60);
        Tools.run(shop, "reverse 0;run 0 1;oil 0;run 0 1;ratchet 1;reverse 0");
        Check.same("tension(0)", shop.tension(0), 53);
        Check.same("wear(0)", shop.wear(0), 1);
        Check.yes("hasRatchet(1)", shop.hasRatchet(1));
    }

    private static void allOrNone() {
        String[] right = {"gear 20", "mesh 12", "spring 2 20", "wind 0 5", "reverse 0", "run 0 2",
            "ratchet 2", "oil 0", "buy 9", "planet 2"};
        for (String text : right) {
            PlanetWorkshop shop = Tools.withGears(20, 60, 12);
            Tools.run(shop, "mesh 01;spring 0 50;wind 0 20;run 0 1");
            String before = View.state(shop);
            Shops.fail(shop, text + ";oil 1;planet 1;buy 3;oil 1");
            Check.same("none of " + text, View.state(shop), before);
            Check.same("failedCommand()", shop.failedCommand(), 4);
            Tools.run(shop, text + ";oil 1;planet 1;buy 3");
            Check.same("planetCount()", shop.planetCount(), text.startsWith("planet") ? 2 : 1);
            Check.same("undo() of all", shop.undo(), 4);
            Check.same("all of " + text, View.state(shop), before);
        }
    }

    private static void tooShort() {
        for (String text : SCRIPTS) {
            for (int length = 0; length <= text.length(); length++) {
                checkPosition(text.substring(0, length));
            }
        }
    }

    private static void everyOtherCharacter() {
        for (String text : SCRIPTS) {
            for (int index = 0; index < text.length(); index++) {
                for (char sign = ' '; sign <= '~'; sign++) {
                    checkPosition(text.substring(0, index) + sign + text.substring(index + 1));
                }
            }
        }
    }

    private static void aCharacterMoreOrLess() {
        String more = "0 ;abefgiloprstuvwx";
        for (String text : SCRIPTS) {
            for (int index = 0; index < text.length(); index++) {
                checkPosition(text.substring(0, index) + text.substring(index + 1));
                for (int sign = 0; sign < more.length() && text.length() < 60; sign++) {
                    checkPosition(text.substring(0, index) + more.charAt(sign)
                            + text.substring(index));
                }
            }
        }
    }
}
