import java.util.function.Supplier;

/** The sentences of promises 40 to 48: ratios, totals, means and the check of the state. */
final class TotalPromises {
    private static final String NOT_MADE = "Throws NoSuchElementException if it can be made neither "
            + "with 1 pair nor with 2 pairs";
    private static final int[] ALLOWED = {6, 8, 10, 12, 15, 20, 24, 30, 40, 60};

    private TotalPromises() {
    }

    static void tell(Sentences told) {
        told.promise(40, "Returns the smaller one of the numbers of pairs with which a ratio can be "
                + "made, found by trying gears.", () -> smaller(PlanetWorkshop::fewestPairs));
        told.promise(41, "Returns the same number as fewestPairs, found with a table of all pairs and "
                + "their ratios in lowest terms.", () -> smaller(PlanetWorkshop::fewestPairsByTable));
        tellOfRatios(told, 40, PlanetWorkshop::fewestPairs);
        tellOfRatios(told, 41, PlanetWorkshop::fewestPairsByTable);
        tellOfTotals(told);
        tellOfMeans(told);
        told.promise(48, "Checks the state: for all pairs of gears in the same train, both ways to "
                + "compute units per turn agree; for all pairs of different planets whose gears are in "
                + "the same train, both ways to find the next eclipse with the gear of the first planet "
                + "as the key agree or find nothing; both ways to find the fewest pairs agree or find "
                + "nothing for all ratios a / 1 with a from 1 to 10; and both ways to compute the "
                + "tensions agree.", TotalPromises::consistent);
        told.promise(48, "Returns true if all of this holds.", TotalPromises::consistentOfNothing);
    }

    private static void tellOfRatios(Sentences told, int promise, Calls.OnTwo pairs) {
        told.promise(promise, "Returns 1 or 2.", () -> oneOrTwo(pairs));
        told.promise(promise, "Throws IllegalArgumentException if a or b is not between 1 and 60",
                () -> wrongNumbers(pairs));
        told.promise(promise, NOT_MADE, () -> notMade(pairs));
    }

    private static void tellOfTotals(Sentences told) {
        told.promise(42, "Returns by how much springs were wound so far.", TotalPromises::wound);
        told.promise(42, "Returns the sum of the amounts.", TotalPromises::woundAndUndone);
        told.promise(43, "Returns the sum of the tensions of all springs, added spring by spring.",
                () -> tensions(PlanetWorkshop::tensionTotal));
        told.promise(43, "Returns the sum.", () -> greatestTension(PlanetWorkshop::tensionTotal));
        told.promise(44, "Returns the same number as tensionTotal, computed from the accounts: by how "
                + "much springs were wound so far minus what releases took from them.",
                () -> tensions(PlanetWorkshop::tensionByAccounts));
        told.promise(44, "Returns the sum.", () -> greatestTension(PlanetWorkshop::tensionByAccounts));
        told.promise(45, "Returns the number of releases in which a gear made at least one turn.",
                TotalPromises::releases);
        told.promise(45, "Returns the number of releases.", TotalPromises::releasesUndone);
    }

    private static void tellOfMeans(Sentences told) {
        String noGears = "Throws ArithmeticException if there are no gears";
        told.promise(46, "Returns the mean number of teeth of the gears: the sum divided by their "
                + "number, both converted to double.", TotalPromises::meanTeeth);
        told.promise(46, "Returns the mean.", TotalPromises::meanOfEqualTeeth);
        told.promise(46, noGears, () -> noGears(PlanetWorkshop::meanTeeth));
        told.promise(47, "Returns the share of gears that are dry, both numbers converted to float.",
                TotalPromises::dryShare);
        told.promise(47, "Returns the share.", TotalPromises::noneAndAllDry);
        told.promise(47, noGears, () -> noGears(PlanetWorkshop::dryShare));
    }

    private static void smaller(Calls.OnTwo pairs) {
        PlanetWorkshop shop = Tools.withGears(60, 20, 15, 10);
        Check.same("3, by 60 / 20", pairs.call(shop, 3, 1), 1);
        Check.same("1 / 3, by 20 / 60", pairs.call(shop, 1, 3), 1);
        Check.same("9 / 2, by 60 / 20 and 15 / 10", pairs.call(shop, 9, 2), 2);
        Check.same("8, by 60 / 15 and 20 / 10", pairs.call(shop, 8, 1), 2);
        Check.same("2, by 20 / 10", pairs.call(shop, 2, 1), 1);
        Check.same("60 / 20 itself", pairs.call(shop, 60, 20), 1);
        Check.same("54 / 12 is 9 / 2", pairs.call(shop, 54, 12), 2);
        View.unchanged("3", Shops::rich, rich -> pairs.call(rich, 3, 1));
    }

    /** All numbers that are asked for, on both sides of 1 and 60, against a search of its own. */
    private static void oneOrTwo(Calls.OnTwo pairs) {
        int[] numbers = {1, 2, 3, 7, 9, 10, 16, 25, 27, 32, 45, 48, 50, 59, 60};
        for (int a : numbers) {
            for (int b : numbers) {
                PlanetWorkshop shop = Tools.withGears(ALLOWED);
                Check.same("(" + a + ", " + b + ")", answer(pairs, shop, a, b), fewest(a, b));
            }
        }
    }

    private static int answer(Calls.OnTwo pairs, PlanetWorkshop shop, int a, int b) {
        try {
            return (Integer) pairs.call(shop, a, b);
        } catch (java.util.NoSuchElementException e) {
            return 0;
        }
    }

    private static int fewest(int a, int b) {
        int fewest = 0;
        for (int code = 0; code < 10000; code++) {
            int p = code / 1000;
            int q = code / 100 % 10;
            int r = code / 10 % 10;
            int s = code % 10;
            if (p != q && ALLOWED[p] * b == ALLOWED[q] * a) {
                return 1;
            }
            boolean areFour = p != q && p != r && p != s && q != r && q != s && r != s;
            if (areFour && ALLOWED[p] * ALLOWED[r] * b == ALLOWED[q] * ALLOWED[s] * a) {
                fewest = 2;
            }
        }
        return fewest;
    }

    private static void wrongNumbers(Calls.OnTwo pairs) {
        int[] wrong = {0, 61, -1, -60, 256 + 1, Integer.MIN_VALUE, Integer.MAX_VALUE};
        int[] right = {1, 60};
        for (int number : wrong) {
            for (int other : right) {
                View.refused("(" + number + ", " + other + ")", Tools.ARGUMENT, Shops::rich,
                        shop -> pairs.call(shop, number, other));
                View.refused("(" + other + ", " + number + ")", Tools.ARGUMENT, Shops::rich,
                        shop -> pairs.call(shop, other, number));
            }
            Check.refused("both are " + number, Tools.ARGUMENT,
                    () -> pairs.call(new PlanetWorkshop(), number, number));
        }
        PlanetWorkshop equal = Tools.withGears(6, 6);
        Check.same("(1, 1)", pairs.call(equal, 1, 1), 1);
        Check.same("(60, 60)", pairs.call(equal, 60, 60), 1);
        PlanetWorkshop ten = Tools.withGears(60, 6, 60, 10);
        Check.same("(60, 1)", pairs.call(ten, 60, 1), 2);
        Check.same("(1, 60)", pairs.call(ten, 1, 60), 2);
    }

    private static void notMade(Calls.OnTwo pairs) {
        for (Supplier<PlanetWorkshop> build : Shops.all()) {
            View.refused("(59, 60)", Tools.MISSING, build, shop -> pairs.call(shop, 59, 60));
        }
        Check.refused("1 with no gears", Tools.MISSING,
                () -> pairs.call(new PlanetWorkshop(), 1, 1));
        Check.refused("1 with one gear", Tools.MISSING,
                () -> pairs.call(Tools.withGears(20), 1, 1));
        Check.refused("1 with different gears", Tools.MISSING,
                () -> pairs.call(Tools.withGears(60, 6, 40), 1, 1));
        Check.refused("9 with three gears", Tools.MISSING,
                () -> pairs.call(Tools.withGears(60, 20, 60), 9, 1));
        Check.same("9 with four gears", pairs.call(Tools.withGears(60, 20, 60, 20), 9, 1), 2);
    }

    private static void wound() {
        PlanetWorkshop shop = Shops.rich();
        Check.same("woundTotal()", shop.woundTotal(), 45);
        shop.wind(0, 66);
        Check.same("woundTotal()", shop.woundTotal(), 111);
        shop.release(0, 50);
        Check.same("after a release", shop.woundTotal(), 111);
        Check.refused("wind(0, 200)", Tools.STATE, () -> shop.wind(0, 200));
        Check.same("after a refused call", shop.woundTotal(), 111);
        View.unchanged("woundTotal()", Shops::rich, PlanetWorkshop::woundTotal);
    }

    private static void woundAndUndone() {
        PlanetWorkshop shop = Tools.withGears(20, 20, 20, 20, 20, 20);
        int sum = 0;
        for (int gear = 0; gear < 6; gear++) {
            shop.setSpring(gear, 200);
            for (int amount = 1; amount <= 13; amount++) {
                shop.wind(gear, amount);
                sum += amount;
            }
        }
        Check.same("woundTotal()", shop.woundTotal(), sum);
        shop.undo();
        Check.same("after undo", shop.woundTotal(), sum - 13);
        shop.save();
        shop.wind(5, 100);
        shop.restore();
        Check.same("after restore", shop.woundTotal(), sum - 13);
    }

    private interface Total {
        int of(PlanetWorkshop shop);
    }

    private static void tensions(Total total) {
        Check.same("without springs", total.of(new PlanetWorkshop()), 0);
        PlanetWorkshop shop = Shops.rich();
        Check.same("34 and 5", total.of(shop), 39);
        shop.release(0, 3);
        Check.same("25 and 5", total.of(shop), 30);
        shop.wind(3, 25);
        Check.same("25 and 30", total.of(shop), 55);
        Check.refused("a ratchet", Tools.UNSUPPORTED, () -> shop.release(3, 1));
        Check.same("after a refused release", total.of(shop), 55);
        shop.undo();
        shop.undo();
        Check.same("after undo", total.of(shop), 39);
        shop.restore();
        Check.same("after restore", total.of(shop), 34);
        View.unchanged("the total", Shops::rich, total::of);
    }

    private static void greatestTension(Total total) {
        PlanetWorkshop shop = Tools.withGears(ALLOWED);
        for (int gear = 0; gear < 10; gear++) {
            shop.setSpring(gear, 200);
            shop.wind(gear, 200);
        }
        Check.same("ten full springs", total.of(shop), 2000);
        for (int gear = 0; gear < 10; gear++) {
            shop.release(gear, 50);
            shop.release(gear, 50);
        }
        Check.same("ten slack springs", total.of(shop), 0);
    }

    private static void releases() {
        PlanetWorkshop shop = Tools.withGears(20, 60);
        shop.setSpring(0, 50);
        shop.release(0, 50);
        Check.same("without tension", shop.releaseTotal(), 0);
        shop.wind(0, 1);
        shop.release(0, 1);
        Check.same("for no turn", shop.releaseTotal(), 0);
        shop.wind(0, 49);
        shop.release(0, 1);
        Check.same("for one turn", shop.releaseTotal(), 1);
        shop.release(0, 50);
        Check.same("for 24 turns", shop.releaseTotal(), 2);
        shop.release(0, 50);
        Check.same("for no turn again", shop.releaseTotal(), 2);
        Check.refused("release(1, 1)", Tools.MISSING, () -> shop.release(1, 1));
        Check.refused("release(0, 0)", Tools.ARGUMENT, () -> shop.release(0, 0));
        Check.same("after refused calls", shop.releaseTotal(), 2);
        View.unchanged("releaseTotal()", Shops::rich, PlanetWorkshop::releaseTotal);
    }

    private static void releasesUndone() {
        PlanetWorkshop shop = Shops.rich();
        Check.same("releaseTotal()", shop.releaseTotal(), 1);
        shop.release(0, 1);
        shop.release(0, 1);
        Check.same("releaseTotal()", shop.releaseTotal(), 3);
        shop.undo();
        Check.same("after undo", shop.releaseTotal(), 2);
        shop.restore();
        Check.same("after restore", shop.releaseTotal(), 1);
        Check.same("in a script", Tools.run(shop(), "run 0 1;run 0 1;run 0 1"), 3);
    }

    private static PlanetWorkshop shop() {
        PlanetWorkshop shop = Tools.withGears(20);
        Tools.run(shop, "spring 0 10;wind 0 10");
        return shop;
    }

    private static void meanTeeth() {
        PlanetWorkshop shop = new PlanetWorkshop();
        int sum = 0;
        for (int gear = 0; gear < 10; gear++) {
            shop.addGear(ALLOWED[gear]);
            sum += ALLOWED[gear];
            Check.same("meanTeeth()", shop.meanTeeth(), (double) sum / (double) (gear + 1));
        }
        shop.undo();
        Check.same("after undo", shop.meanTeeth(), 165.0 / 9.0);
        View.unchanged("meanTeeth()", Shops::rich, PlanetWorkshop::meanTeeth);
    }

    private static void meanOfEqualTeeth() {
        Check.same("of 6", Tools.withGears(6).meanTeeth(), 6.0);
        Check.same("of 60", Tools.withGears(60, 60, 60, 60, 60, 60, 60, 60, 60, 60).meanTeeth(), 60.0);
        Check.same("of 6 and 15", Tools.withGears(6, 15).meanTeeth(), 10.5);
    }

    private interface Mean {
        Object of(PlanetWorkshop shop);
    }

    private static void noGears(Mean mean) {
        View.refused("of nothing", ArithmeticException.class, PlanetWorkshop::new, mean::of);
        View.refused("of an undone gear", ArithmeticException.class, () -> {
            PlanetWorkshop shop = Tools.withGears(20);
            shop.undo();
            return shop;
        }, mean::of);
        View.refused("of a restored nothing", ArithmeticException.class, () -> {
            PlanetWorkshop shop = new PlanetWorkshop();
            shop.save();
            shop.addGear(20);
            shop.restore();
            return shop;
        }, mean::of);
        Check.yes("of a gear", mean.of(Tools.withGears(20)) != null);
    }

    private static void dryShare() {
        PlanetWorkshop shop = Tools.withGears(ALLOWED);
        for (int oiled = 1; oiled <= 10; oiled++) {
            shop.oil(10 - oiled);
            Check.same("dryShare()", shop.dryShare(), (float) (10 - oiled) / 10.0f);
        }
        PlanetWorkshop three = Tools.withGears(20, 20, 20);
        three.oil(0);
        Check.same("two thirds", three.dryShare(), 2.0f / 3.0f);
        three.oil(1);
        Check.same("one third", three.dryShare(), 1.0f / 3.0f);
        View.unchanged("dryShare()", Shops::rich, PlanetWorkshop::dryShare);
    }

    private static void noneAndAllDry() {
        PlanetWorkshop shop = Tools.withGears(20);
        Check.same("all", shop.dryShare(), 1.0f);
        shop.oil(0);
        Check.same("none", shop.dryShare(), 0.0f);
        Tools.run(shop, "spring 0 30;wind 0 30;run 0 30");
        Check.same("all again", shop.dryShare(), 1.0f);
    }

    private static void consistent() {
        for (Supplier<PlanetWorkshop> build : Shops.all()) {
            Check.yes("isConsistent()", build.get().isConsistent());
            View.unchanged("isConsistent()", build, PlanetWorkshop::isConsistent);
        }
        PlanetWorkshop far = PlanetPromises.thousandth();
        Check.yes("with an eclipse too far away", far.isConsistent());
        far.release(0, 1);
        Check.yes("with an eclipse in 999 turns", far.isConsistent());
        PlanetWorkshop slow = QueryPromises.slow();
        slow.addPlanet(0);
        slow.addPlanet(9);
        slow.release(9, 3);
        Check.yes("in the steepest train", slow.isConsistent());
        PlanetWorkshop gap = Tools.withGears(20, 60);
        Tools.run(gap, "mesh 01;spring 0 200;wind 0 200;planet 0;planet 1");
        Tools.run(gap, "run 0 1;cut 01;axle 01");
        Check.yes("with no eclipse at all", gap.isConsistent());
    }

    private static void consistentOfNothing() {
        Check.yes("of nothing", new PlanetWorkshop().isConsistent());
        Check.yes("of a gear", Tools.withGears(60).isConsistent());
        Check.yes("of all teeth", Tools.withGears(ALLOWED).isConsistent());
    }
}
