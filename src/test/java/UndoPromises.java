/** The sentences of promises 56 to 58: undo and the snapshot. */
final class UndoPromises {
    private UndoPromises() {
    }

    static void tell(Sentences told) {
        told.promise(56, "Undoes the latest change that has not been undone.", UndoPromises::undoes);
        told.promise(56, "Undoes the latest change that has not been undone.",
                UndoPromises::undoesAndChanges);
        told.promise(56, "Returns the number of changes that can still be undone.",
                UndoPromises::changesLeft);
        told.promise(56, "Throws NoSuchElementException if there is nothing to undo",
                UndoPromises::nothingToUndo);
        told.promise(57, "Takes a snapshot, which replaces an earlier one.", UndoPromises::saves);
        told.promise(57, "Returns the number of gears.", UndoPromises::gearsOfSave);
        told.promise(58, "Restores the snapshot, which is kept. Afterwards there is nothing to undo.",
                UndoPromises::restores);
        told.promise(58, "Restores the snapshot, which is kept. Afterwards there is nothing to undo.",
                UndoPromises::restoresOtherGears);
        told.promise(58, "Restores the snapshot, which is kept. Afterwards there is nothing to undo.",
                UndoPromises::nothingToUndoAfterwards);
        told.promise(58, "Returns the number of gears.", UndoPromises::gearsOfRestore);
        told.promise(58, "Throws IllegalStateException if there is no snapshot",
                UndoPromises::noSnapshot);
    }

    private static void undoes() {
        PlanetWorkshop shop = Tools.withGears(20, 60);
        String[] seen = new String[9];
        String[] commands = {"mesh 01", "spring 0 100", "wind 0 90", "reverse 0", "oil 1", "run 0 7",
            "planet 1", "ratchet 1"};
        for (int index = 0; index < 8; index++) {
            seen[index] = View.state(shop);
            Tools.run(shop, commands[index]);
        }
        for (int index = 7; index >= 0; index--) {
            shop.undo();
            Check.same("before " + commands[index], View.state(shop), seen[index]);
        }
    }

    /** What was undone does not come back when another change takes its place. */
    private static void undoesAndChanges() {
        PlanetWorkshop shop = new PlanetWorkshop();
        shop.buyOil(1);
        shop.buyOil(2);
        shop.undo();
        shop.buyOil(4);
        shop.undo();
        Check.same("drops()", shop.drops(), 13);
        shop.buyOil(8);
        shop.buyOil(16);
        shop.undo();
        Check.same("drops()", shop.drops(), 21);
        shop.undo();
        shop.undo();
        Check.same("drops()", shop.drops(), 12);
        Check.refused("undo()", Tools.MISSING, shop::undo);
    }

    private static void changesLeft() {
        for (int changes = 1; changes <= 20; changes++) {
            PlanetWorkshop shop = new PlanetWorkshop();
            for (int change = 0; change < changes; change++) {
                shop.buyOil(1);
            }
            for (int left = Math.min(changes, 8) - 1; left >= 0; left--) {
                Check.same("undo() of " + changes, shop.undo(), left);
            }
            Check.refused("undo() of " + changes, Tools.MISSING, shop::undo);
            Check.same("drops()", shop.drops(), 12 + Math.max(0, changes - 8));
        }
    }

    private static void nothingToUndo() {
        View.refused("undo() of a new workshop", Tools.MISSING, PlanetWorkshop::new,
                PlanetWorkshop::undo);
        View.refused("undo() of an undone change", Tools.MISSING, () -> {
            PlanetWorkshop shop = Tools.withGears(20);
            shop.undo();
            return shop;
        }, PlanetWorkshop::undo);
        View.refused("a ninth undo()", Tools.MISSING, () -> {
            PlanetWorkshop shop = Shops.rich();
            for (int time = 0; time < 8; time++) {
                shop.undo();
            }
            return shop;
        }, PlanetWorkshop::undo);
        PlanetWorkshop shop = new PlanetWorkshop();
        Check.refused("addGear(7)", Tools.ARGUMENT, () -> shop.addGear(7));
        Check.refused("after a refused change", Tools.MISSING, shop::undo);
        Check.refused("the empty script", Tools.ARGUMENT, shop::runScript);
        Check.refused("after a refused script", Tools.MISSING, shop::undo);
        shop.addGear(6);
        Check.same("after a change", shop.undo(), 0);
    }

    private static void saves() {
        PlanetWorkshop shop = Tools.withGears(20);
        shop.save();
        String first = View.state(shop);
        shop.addGear(60);
        shop.restore();
        Check.same("the first snapshot", View.state(shop), first);
        Tools.run(shop, "gear 60;mesh 01;spring 0 50;wind 0 50;run 0 3;oil 1");
        Tools.run(shop, "planet 1;ratchet 0;reverse 0");
        shop.save();
        String second = View.state(shop);
        Tools.run(shop, "reverse 0;run 0 1;cut 01;oil 0;free 0;planet 0;gear 6");
        shop.restore();
        Check.same("the second snapshot", View.state(shop), second);
        View.unchanged("a snapshot of the same", () -> {
            PlanetWorkshop same = Shops.rich();
            same.save();
            return same;
        }, PlanetWorkshop::save);
    }

    private static void gearsOfSave() {
        PlanetWorkshop shop = new PlanetWorkshop();
        for (int gears = 0; gears < 10; gears++) {
            Check.same("save()", shop.save(), gears);
            shop.addGear(6);
        }
        Check.same("save()", shop.save(), 10);
        shop.undo();
        Check.same("save() after undo", shop.save(), 9);
    }

    private static void restores() {
        PlanetWorkshop shop = Shops.rich();
        shop.save();
        String seen = View.state(shop);
        Tools.run(shop, ";buy 2;cut 01;run 0 1;reverse 3;gear 60;planet 0");
        shop.restore();
        Check.same("the first time", View.state(shop), seen);
        shop.addGear(6);
        shop.restore();
        Check.same("the second time", View.state(shop), seen);
        shop.restore();
        Check.same("the third time, at once", View.state(shop), seen);
        shop.setRatchet(0, true);
        shop.wind(0, 9);
        shop.undo();
        shop.undo();
        Check.same("undo of later changes", View.state(shop), seen);
    }

    /** Other gears and planets stand in the places of those in the snapshot. */
    private static void restoresOtherGears() {
        PlanetWorkshop shop = new PlanetWorkshop();
        Tools.run(shop, "gear 20;gear 60;mesh 01;planet 1;planet 0");
        shop.save();
        String seen = View.state(shop);
        shop.undo();
        Tools.run(shop, "gear 6;gear 8;axle 01;planet 0;planet 1;oil 0;oil 1");
        shop.restore();
        Check.same("restore()", View.state(shop), seen);
        Check.same("teeth(0)", shop.teeth(0), 20);
        Check.same("gearOf(0)", shop.gearOf(0), 1);
        Check.same("unitsPerTurn(0, 1)", shop.unitsPerTurn(0, 1), -Tools.TURN / 3);
    }

    private static void nothingToUndoAfterwards() {
        PlanetWorkshop shop = Shops.rich();
        shop.restore();
        Check.refused("undo()", Tools.MISSING, shop::undo);
        shop.buyOil(1);
        Check.same("undo() of a later change", shop.undo(), 0);
        Check.refused("undo() again", Tools.MISSING, shop::undo);
        for (int change = 0; change < 9; change++) {
            shop.buyOil(1);
        }
        Check.same("undo() of the ninth later change", shop.undo(), 7);
        shop.restore();
        Check.refused("undo() once more", Tools.MISSING, shop::undo);
    }

    private static void gearsOfRestore() {
        PlanetWorkshop shop = new PlanetWorkshop();
        shop.save();
        shop.addGear(6);
        Check.same("no gears", shop.restore(), 0);
        Check.same("gearCount()", shop.gearCount(), 0);
        for (int gears = 1; gears <= 10; gears++) {
            shop.addGear(6);
            shop.save();
            Check.same("restore()", shop.restore(), gears);
        }
        shop.save();
        shop.restore();
        Check.same("ten gears", shop.gearCount(), 10);
    }

    private static void noSnapshot() {
        View.refused("restore() of a new workshop", Tools.STATE, PlanetWorkshop::new,
                PlanetWorkshop::restore);
        View.refused("restore() without save()", Tools.STATE, Shops::undone,
                PlanetWorkshop::restore);
        PlanetWorkshop shop = new PlanetWorkshop();
        Check.refused("restore()", Tools.STATE, shop::restore);
        shop.save();
        Check.same("after save()", shop.restore(), 0);
        Check.same("it is kept", shop.restore(), 0);
    }
}
