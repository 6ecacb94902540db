import java.util.List;
import java.util.function.Consumer;
import java.util.function.Supplier;

/** The terms about changes, undo, refused calls and the order of exceptions. */
final class ChangeTerms {
    private ChangeTerms() {
    }

    static void tell(Sentences told) {
        String change = "A change is a call of addGear, mesh, shareAxle, separate, setSpring, wind, "
                + "reverse, release, setRatchet, oil, buyOil, addPlanet or runScript that returns "
                + "normally, even if the state is the same afterwards.";
        told.term(change, ChangeTerms::eachChange);
        told.term(change, ChangeTerms::sameStateAfterwards);
        told.term(change, ChangeTerms::otherCallsAreNoChanges);
        told.term("The latest 8 changes can be undone, the latest one first.", ChangeTerms::latestEight);
        told.term("The latest 8 changes can be undone, the latest one first.",
                ChangeTerms::placesComeRound);
        String covered = "Undo and the snapshot cover everything except the script buffer, the error "
                + "position, the index of the failed command, the output text and the snapshot itself.";
        told.term(covered, ChangeTerms::covered);
        told.term(covered, ChangeTerms::notCoveredByUndo);
        told.term(covered, ChangeTerms::notCoveredBySnapshot);
        told.term(covered, ChangeTerms::snapshotIsNotUndone);
        told.term("A method that throws an exception changes nothing unless its description says "
                + "otherwise.", ChangeTerms::refusedCalls);
        String first = "If several exceptions apply, the one that is listed first is thrown.";
        told.term(first, ChangeTerms::firstOfJoins);
        told.term(first, ChangeTerms::firstOfSprings);
        told.term(first, ChangeTerms::firstOfOilAndPlanets);
        told.term(first, ChangeTerms::firstOfQueries);
        told.term(first, ChangeTerms::firstOfScripts);
    }

    private static PlanetWorkshop start() {
        PlanetWorkshop shop = Tools.withGears(20, 60, 12);
        Tools.run(shop, "mesh 01;spring 0 100;wind 0 50;oil 1");
        return shop;
    }

    /** Four changes made the start, so a fifth one leaves 4 to undo, and a refused one 3. */
    private static void eachChange() {
        List<Consumer<PlanetWorkshop>> changes = List.of(shop -> shop.addGear(6),
                shop -> shop.mesh(1, 2), shop -> shop.shareAxle(0, 2), shop -> shop.separate(1, 0),
                shop -> shop.setSpring(2, 10), shop -> shop.wind(0, 1), shop -> shop.reverse(0),
                shop -> shop.release(0, 1), shop -> shop.setRatchet(0, true), shop -> shop.oil(0),
                shop -> shop.buyOil(1), shop -> shop.addPlanet(0), shop -> Tools.run(shop, "gear 6"));
        String before = View.state(start());
        for (int index = 0; index < changes.size(); index++) {
            PlanetWorkshop shop = start();
            changes.get(index).accept(shop);
            String after = View.state(shop);
            Check.no("change " + index + " changes nothing", after.equals(before));
            Check.same("undo() of change " + index, shop.undo(), 4);
            Check.same("what is seen without change " + index, View.state(shop), before);
            Check.same("undo() of what was before", shop.undo(), 3);
        }
    }

    private static void sameStateAfterwards() {
        List<Consumer<PlanetWorkshop>> changes = List.of(shop -> shop.setRatchet(0, false),
                shop -> shop.release(2, 5), shop -> Tools.run(shop, "free 0"),
                shop -> Tools.run(shop, "reverse 0;reverse 0"), shop -> Tools.run(shop, "run 2 1"));
        for (Consumer<PlanetWorkshop> change : changes) {
            PlanetWorkshop shop = start();
            shop.setSpring(2, 10);
            String before = View.state(shop);
            change.accept(shop);
            Check.same("what is seen", View.state(shop), before);
            Check.same("undo()", shop.undo(), 5);
            Check.same("what is seen", View.state(shop), before);
            Check.same("undo() of setSpring", shop.undo(), 4);
        }
        PlanetWorkshop eight = start();
        for (int time = 0; time < 8; time++) {
            eight.setRatchet(0, false);
        }
        String before = View.state(eight);
        for (int left = 7; left >= 0; left--) {
            Check.same("undo()", eight.undo(), left);
        }
        Check.same("nothing but such changes is undone", View.state(eight), before);
        Check.refused("undo()", Tools.MISSING, eight::undo);
    }

    private static void otherCallsAreNoChanges() {
        List<Consumer<PlanetWorkshop>> others = List.of(PlanetWorkshop::save, PlanetWorkshop::drops,
                PlanetWorkshop::isConsistent, shop -> shop.renderGear(0), shop -> shop.renderTrain(0),
                shop -> shop.type('b'), shop -> shop.trainSize(0), shop -> shop.nextEclipse(0, 1, 0),
                shop -> shop.fewestPairs(3, 1), PlanetWorkshop::tensionTotal, shop -> {
                    shop.undo();
                    shop.buyOil(1);
                });
        for (int index = 0; index < others.size(); index++) {
            PlanetWorkshop shop = start();
            shop.addPlanet(0);
            shop.addPlanet(1);
            shop.buyOil(1);
            others.get(index).accept(shop);
            Check.same("undo() after call " + index, shop.undo(), 6);
            Check.same("drops() after call " + index, shop.drops(), 11);
        }
    }

    private static void latestEight() {
        PlanetWorkshop shop = new PlanetWorkshop();
        for (int drops = 1; drops <= 9; drops++) {
            shop.buyOil(drops);
        }
        int drops = 57;
        for (int latest = 9; latest >= 2; latest--) {
            Check.same("undo()", shop.undo(), latest - 2);
            drops -= latest;
            Check.same("drops()", shop.drops(), drops);
        }
        Check.refused("a ninth undo()", Tools.MISSING, shop::undo);
        Check.same("drops()", shop.drops(), 13);
        PlanetWorkshop eight = new PlanetWorkshop();
        for (int change = 1; change <= 8; change++) {
            eight.buyOil(1);
        }
        for (int left = 7; left >= 0; left--) {
            Check.same("undo() of eight", eight.undo(), left);
        }
        Check.same("drops()", eight.drops(), 12);
    }

    /** The 8 places are used over and over, from each of them on, with undo between. */
    private static void placesComeRound() {
        for (int first = 0; first <= 17; first++) {
            for (int undone = 0; undone <= Math.min(first, 8); undone++) {
                PlanetWorkshop shop = new PlanetWorkshop();
                for (int change = 0; change < first; change++) {
                    shop.buyOil(1);
                }
                for (int time = 0; time < undone; time++) {
                    shop.undo();
                }
                int drops = 12 + first - undone;
                Check.same("drops()", shop.drops(), drops);
                shop.buyOil(10);
                shop.buyOil(20);
                int left = Math.min(8, Math.min(first, 8) - undone + 2);
                Check.same("undo()", shop.undo(), left - 1);
                Check.same("drops()", shop.drops(), drops + 10);
                for (int more = left - 2; more >= 0; more--) {
                    Check.same("undo()", shop.undo(), more);
                }
                Check.same("drops()", shop.drops(), drops - (left - 2));
                Check.refused("undo()", Tools.MISSING, shop::undo);
            }
        }
    }

    /** Every kind of thing is changed at once, and undo and restore bring each back. */
    private static void covered() {
        String change = "gear 60;cut 01;spring 1 33;wind 1 3;reverse 3";
        String more = "run 0 1;oil 0;ratchet 0;free 2;planet 0;buy 2;mesh 02";
        PlanetWorkshop shop = Tools.withGears(20, 60, 12, 15);
        Tools.run(shop, "mesh 01;spring 0 100;wind 0 90;spring 3 20;reverse 3");
        Tools.run(shop, "oil 1;run 0 4;planet 1;ratchet 2");
        String before = View.state(shop);
        shop.save();
        Tools.run(shop, change);
        Tools.run(shop, more);
        Check.no("nothing is changed", View.state(shop).equals(before));
        shop.undo();
        shop.undo();
        Check.same("after undo", View.state(shop), before);
        Tools.run(shop, change);
        Tools.run(shop, more);
        shop.restore();
        Check.same("after restore", View.state(shop), before);
        Check.same("turnsLeft(0)", shop.turnsLeft(0), 26);
        Check.yes("isConsistent()", shop.isConsistent());
    }

    private static void notCoveredByUndo() {
        PlanetWorkshop shop = Shops.rich();
        shop.renderGear(1);
        for (int left = 7; left >= 0; left--) {
            Check.same("undo()", shop.undo(), left);
            Check.same("the output text", View.text(shop), "1:60");
            Check.same("errorPosition()", shop.errorPosition(), 9);
            Check.same("failedCommand()", shop.failedCommand(), 1);
            Check.same("the script buffer", shop.type('0'), 13 - left);
        }
        Check.refused("the script buy 100000000", Tools.ARGUMENT, shop::runScript);
        Check.same("its error position", shop.errorPosition(), 7);
    }

    private static void notCoveredBySnapshot() {
        PlanetWorkshop shop = new PlanetWorkshop();
        shop.save();
        shop.addGear(60);
        shop.renderGear(0);
        Shops.fail(shop, "gear 6;gear 6;gear 7");
        Shops.fail(shop, "ox");
        Tools.typeText(shop, "buy 2");
        shop.restore();
        Check.same("gearCount()", shop.gearCount(), 0);
        Check.same("the output text", View.text(shop), "0:60d");
        Check.same("errorPosition()", shop.errorPosition(), 1);
        Check.same("failedCommand()", shop.failedCommand(), 2);
        Check.same("the script buffer", shop.type('0'), 6);
        Check.same("runScript()", shop.runScript(), 1);
        Check.same("drops()", shop.drops(), 32);
    }

    private static void snapshotIsNotUndone() {
        PlanetWorkshop shop = Tools.withGears(20);
        shop.save();
        shop.undo();
        Check.same("gearCount()", shop.gearCount(), 0);
        Check.same("restore() after undo()", shop.restore(), 1);
        shop.addGear(60);
        shop.save();
        shop.undo();
        Check.same("restore() of the later one", shop.restore(), 2);
    }

    /** For each method that throws, a call that is refused for each of its exceptions. */
    private static void refusedCalls() {
        Supplier<PlanetWorkshop> rich = Shops::rich;
        View.refused("addGear", Tools.ARGUMENT, rich, shop -> shop.addGear(7));
        View.refused("addGear", Tools.STATE, Shops::full, shop -> shop.addGear(6));
        View.refused("mesh", Tools.STATE, rich, shop -> shop.mesh(0, 2));
        View.refused("shareAxle", Tools.STATE, rich, shop -> shop.shareAxle(3, 1));
        View.refused("mesh", Tools.UNSUPPORTED, ChangeTerms::open, shop -> shop.mesh(0, 2));
        View.refused("shareAxle", Tools.UNSUPPORTED, ChangeTerms::open, shop -> shop.shareAxle(2, 0));
        View.refused("separate", Tools.MISSING, rich, shop -> shop.separate(0, 3));
        View.refused("setSpring", Tools.STATE, rich, shop -> shop.setSpring(1, 50));
        View.refused("wind", Tools.STATE, rich, shop -> shop.wind(3, 26));
        View.refused("wind", Tools.MISSING, rich, shop -> shop.wind(2, 26));
        View.refused("reverse", Tools.MISSING, rich, shop -> shop.reverse(2));
        View.refused("release", Tools.UNSUPPORTED, rich, shop -> shop.release(3, 1));
        View.refused("release", Tools.MISSING, rich, shop -> shop.release(1, 1));
        View.refused("setRatchet", Tools.INDEX, rich, shop -> shop.setRatchet(4, false));
        View.refused("oil", Tools.STATE, rich, shop -> shop.oil(1));
        View.refused("oil", Tools.UNSUPPORTED, Shops::withoutDrops, shop -> shop.oil(1));
        View.refused("buyOil", Tools.STATE, Shops::full, shop -> shop.buyOil(50));
        View.refused("addPlanet", Tools.STATE, Shops::full, shop -> shop.addPlanet(0));
        View.refused("renderGear", Tools.INDEX, rich, shop -> shop.renderGear(4));
        View.refused("renderTrain", Tools.INDEX, rich, shop -> shop.renderTrain(-1));
        View.refused("type", Tools.ARGUMENT, rich, shop -> shop.type('\n'));
        View.refused("type", Tools.STATE, Shops::full, shop -> shop.type('1'));
        View.refused("undo", Tools.MISSING, PlanetWorkshop::new, PlanetWorkshop::undo);
        View.refused("restore", Tools.STATE, Shops::undone, PlanetWorkshop::restore);
    }

    /** Gears 0 and 2 are in one train already, and turn in opposite ways. */
    private static PlanetWorkshop open() {
        PlanetWorkshop shop = Tools.withGears(20, 60, 20, 15);
        Tools.run(shop, "mesh 01;axle 12;spring 3 20;wind 3 20;run 3 3;oil 3");
        shop.save();
        return shop;
    }

    private static void order(String call, Class<? extends RuntimeException> due,
            Supplier<PlanetWorkshop> build, Consumer<PlanetWorkshop> code) {
        View.refused(call, due, build, code);
    }

    private static void firstOfJoins() {
        order("no gear before the same", Tools.INDEX, Shops::rich, shop -> shop.mesh(4, 4));
        order("no gear before the same", Tools.INDEX, Shops::rich, shop -> shop.shareAxle(-1, -1));
        order("no gear before 15 joints", Tools.INDEX, Shops::full, shop -> shop.mesh(0, 10));
        order("no gear before 15 joints", Tools.INDEX, Shops::full, shop -> shop.shareAxle(-1, 0));
        order("the same before 15 joints", Tools.ARGUMENT, Shops::full, shop -> shop.mesh(3, 3));
        order("the same before 15 joints", Tools.ARGUMENT, Shops::full, shop -> shop.shareAxle(3, 3));
        order("joined before not allowed", Tools.STATE, Shops::rich, shop -> shop.shareAxle(0, 1));
        order("joined before not allowed", Tools.STATE, Shops::rich, shop -> shop.mesh(2, 3));
        order("15 joints before not allowed", Tools.STATE, Shops::full, shop -> shop.mesh(0, 9));
        order("no gear before not joined", Tools.INDEX, Shops::rich, shop -> shop.separate(4, 0));
        order("no gear before not joined", Tools.INDEX, Shops::rich, shop -> shop.separate(5, 5));
    }

    private static void firstOfSprings() {
        Supplier<PlanetWorkshop> rich = Shops::rich;
        order("no gear before the size", Tools.INDEX, rich, shop -> shop.setSpring(4, 9));
        order("the size before a second", Tools.ARGUMENT, rich, shop -> shop.setSpring(0, 9));
        order("the size before a second", Tools.ARGUMENT, rich, shop -> shop.setSpring(1, 201));
        order("no gear before the amount", Tools.INDEX, rich, shop -> shop.wind(-1, 0));
        order("the amount before no spring", Tools.ARGUMENT, rich, shop -> shop.wind(1, 0));
        order("the amount before no spring", Tools.ARGUMENT, rich, shop -> shop.wind(2, 201));
        order("the amount before the tension", Tools.ARGUMENT, rich, shop -> shop.wind(0, 201));
        order("no spring before the tension", Tools.MISSING, rich, shop -> shop.wind(1, 200));
        order("no gear before no spring", Tools.INDEX, rich, shop -> shop.reverse(4));
        order("no gear before the turns", Tools.INDEX, rich, shop -> shop.release(4, 0));
        order("the turns before no spring", Tools.ARGUMENT, rich, shop -> shop.release(1, 51));
        order("the turns before the ratchet", Tools.ARGUMENT, rich, shop -> shop.release(3, 0));
        order("the turns before the ratchet", Tools.ARGUMENT, rich, shop -> shop.release(3, 51));
        order("no spring before the ratchet", Tools.MISSING, rich, shop -> shop.release(2, 1));
    }

    private static void firstOfOilAndPlanets() {
        order("the teeth before 10 gears", Tools.ARGUMENT, Shops::full, shop -> shop.addGear(7));
        order("no gear before no drops", Tools.INDEX, Shops::withoutDrops, shop -> shop.oil(2));
        order("oiled before no drops", Tools.STATE, () -> {
            PlanetWorkshop shop = Shops.withoutDrops();
            shop.buyOil(1);
            shop.oil(0);
            return shop;
        }, shop -> shop.oil(0));
        order("the drops before too many", Tools.ARGUMENT, Shops::full, shop -> shop.buyOil(51));
        order("the drops before too many", Tools.ARGUMENT, Shops::rich, shop -> shop.buyOil(100));
        order("no gear before 6 planets", Tools.INDEX, Shops::full, shop -> shop.addPlanet(10));
        order("no gear before 6 planets", Tools.INDEX, Shops::full, shop -> shop.addPlanet(-1));
    }

    private static void firstOfQueries() {
        Supplier<PlanetWorkshop> rich = Shops::rich;
        order("no gear before not joined", Tools.INDEX, rich, shop -> shop.joint(4, 4));
        order("no gear before the train", Tools.INDEX, rich, shop -> shop.unitsPerTurn(0, 4));
        order("no gear before the train", Tools.INDEX, rich,
                shop -> shop.unitsPerTurnByLowest(4, 0));
        order("no planet before the same", Tools.INDEX, rich, shop -> shop.areInLine(2, 2));
        order("no planet before the same", Tools.INDEX, rich, shop -> shop.nextEclipse(2, 2, 0));
        order("no key before the same", Tools.INDEX, rich, shop -> shop.nextEclipse(0, 0, 4));
        order("no key before the train", Tools.INDEX, rich, shop -> shop.nextEclipse(0, 1, -1));
        order("the same before the train", Tools.ARGUMENT, rich, shop -> shop.nextEclipse(0, 0, 3));
        order("no key before the same", Tools.INDEX, rich,
                shop -> shop.nextEclipseByTurns(0, 0, 4));
        order("the same before the train", Tools.ARGUMENT, rich,
                shop -> shop.nextEclipseByTurns(0, 0, 3));
        Supplier<PlanetWorkshop> gap = () -> {
            PlanetWorkshop shop = Tools.withGears(20, 60, 6);
            Tools.run(shop, "mesh 01;spring 0 50;wind 0 50;run 0 1;cut 01;axle 01");
            Tools.run(shop, "planet 0;planet 1");
            return shop;
        };
        order("the train before no eclipse", Tools.STATE, gap, shop -> shop.nextEclipse(0, 1, 2));
        order("the train before no eclipse", Tools.STATE, gap,
                shop -> shop.nextEclipseByTurns(0, 1, 2));
        order("no eclipse", Tools.MISSING, gap, shop -> shop.nextEclipse(0, 1, 0));
        order("the numbers before no pairs", Tools.ARGUMENT, PlanetWorkshop::new,
                shop -> shop.fewestPairs(0, 61));
        order("the numbers before no pairs", Tools.ARGUMENT, PlanetWorkshop::new,
                shop -> shop.fewestPairsByTable(61, 0));
        order("no gear before no spring", Tools.INDEX, rich, shop -> shop.tension(4));
        order("no gear before dry", Tools.INDEX, rich, shop -> shop.wear(4));
    }

    private static void firstOfScripts() {
        order("the character before 60", Tools.ARGUMENT, Shops::full, shop -> shop.type((char) 127));
        order("the character before 60", Tools.ARGUMENT, Shops::full, shop -> shop.type((char) 31));
        PlanetWorkshop shop = new PlanetWorkshop();
        Tools.typeText(shop, "gear 7;gear");
        Check.refused("the form before a failed command", Tools.ARGUMENT, shop::runScript);
        Check.same("errorPosition()", shop.errorPosition(), 11);
        Check.refused("failedCommand()", Tools.MISSING, shop::failedCommand);
    }
}
