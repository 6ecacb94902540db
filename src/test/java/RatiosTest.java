/** Promises 40 and 41: the fewest pairs of gears for a ratio. */
public final class RatiosTest {
    public static void main(String[] args) {
        wrongNumbers();
        fewGears();
        fourGears();
        otherGearsLater();
        equalGears();
        everyRatio();
        Check.end("RatiosTest");
    }

    private static void due(PlanetWorkshop shop, int a, int b, int pairs) {
        String call = "(" + a + ", " + b + ")";
        if (pairs == 0) {
            Check.refused("fewestPairs" + call, Tools.MISSING, () -> shop.fewestPairs(a, b));
            Check.refused("fewestPairsByTable" + call, Tools.MISSING,
                    () -> shop.fewestPairsByTable(a, b));
        } else {
            Check.same("fewestPairs" + call, shop.fewestPairs(a, b), pairs);
            Check.same("fewestPairsByTable" + call, shop.fewestPairsByTable(a, b), pairs);
        }
    }

    private static void wrongNumbers() {
        PlanetWorkshop shop = Tools.withGears(6, 6);
        int[] wrong = {0, -1, 61, Integer.MIN_VALUE, Integer.MAX_VALUE};
        for (int number : wrong) {
            Check.refused("a = " + number, Tools.ARGUMENT, () -> shop.fewestPairs(number, 1));
            Check.refused("b = " + number, Tools.ARGUMENT, () -> shop.fewestPairs(1, number));
            Check.refused("a = " + number, Tools.ARGUMENT, () -> shop.fewestPairsByTable(number, 1));
            Check.refused("b = " + number, Tools.ARGUMENT, () -> shop.fewestPairsByTable(1, number));
        }
        due(shop, 60, 60, 1);
        due(shop, 1, 1, 1);
        due(shop, 60, 59, 0);
        due(shop, 59, 60, 0);
    }

    private static void fewGears() {
        due(new PlanetWorkshop(), 1, 1, 0);
        due(Tools.withGears(60), 1, 1, 0);
        PlanetWorkshop two = Tools.withGears(60, 20);
        due(two, 3, 1, 1);
        due(two, 1, 3, 1);
        due(two, 60, 20, 1);
        due(two, 1, 1, 0);
        due(two, 9, 1, 0);
        PlanetWorkshop three = Tools.withGears(60, 20, 6);
        due(three, 3, 1, 1);
        due(three, 10, 1, 1);
        due(three, 10, 3, 1);
        due(three, 30, 1, 0);
        due(three, 9, 1, 0);
    }

    private static void fourGears() {
        PlanetWorkshop shop = Tools.withGears(60, 20, 6, 15);
        due(shop, 4, 1, 1);
        due(shop, 8, 1, 0);
        due(shop, 9, 2, 0);
        due(shop, 2, 15, 2);
        due(shop, 15, 2, 2);
        due(shop, 60, 8, 2);
        due(shop, 40, 3, 2);
        due(shop, 6, 5, 2);
        due(shop, 1, 1, 0);
        shop.mesh(0, 1);
        due(shop, 15, 2, 2);
        shop.undo();
        shop.undo();
        due(shop, 15, 2, 0);
    }

    /** What was found for other gears is forgotten. */
    private static void otherGearsLater() {
        PlanetWorkshop shop = Tools.withGears(60, 20);
        due(shop, 3, 1, 1);
        shop.undo();
        shop.addGear(15);
        due(shop, 3, 1, 0);
        due(shop, 4, 1, 1);
        due(shop, 1, 4, 1);
        shop.undo();
        due(shop, 4, 1, 0);
    }

    private static void equalGears() {
        PlanetWorkshop shop = Tools.withGears(60, 60, 20, 20);
        due(shop, 1, 1, 1);
        due(shop, 9, 1, 2);
        due(shop, 1, 9, 2);
        due(shop, 3, 1, 1);
        PlanetWorkshop pair = Tools.withGears(60, 20, 15, 10);
        due(pair, 2, 1, 1);
        due(pair, 9, 2, 2);
        due(pair, 1, 1, 0);
        PlanetWorkshop cross = Tools.withGears(30, 15, 12, 24);
        due(cross, 1, 1, 2);
    }

    /** With all ten gears, against a search that is written out here. */
    private static void everyRatio() {
        int[] teeth = {6, 8, 10, 12, 15, 20, 24, 30, 40, 60};
        for (int a = 1; a <= 60; a++) {
            PlanetWorkshop shop = Tools.withGears(teeth);
            for (int b = 1; b <= 60; b++) {
                int pairs = fewest(teeth, a, b);
                try {
                    Check.same("fewestPairs", shop.fewestPairs(a, b), pairs);
                } catch (java.util.NoSuchElementException e) {
                    Check.same("fewestPairs", 0, pairs);
                }
                try {
                    Check.same("fewestPairsByTable", shop.fewestPairsByTable(a, b), pairs);
                } catch (java.util.NoSuchElementException e) {
                    Check.same("fewestPairsByTable", 0, pairs);
                }
            }
        }
    }

    private static int fewest(int[] teeth, int a, int b) {
        int fewest = 0;
        for (int code = 0; code < 10000; code++) {
            int p = code / 1000;
            int q = code / 100 % 10;
            int r = code / 10 % 10;
            int s = code % 10;
            if (p != q && teeth[p] * b == teeth[q] * a) {
                return 1;
            }
            boolean areFour = p != q && p != r && p != s && q != r && q != s && r != s;
            if (areFour && teeth[p] * teeth[r] * b == teeth[q] * teeth[s] * a) {
                fewest = 2;
            }
        }
        return fewest;
    }
}
