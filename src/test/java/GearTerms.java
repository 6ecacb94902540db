/** The terms about gears, joints, trains, units and angles. */
final class GearTerms {
    private static final int[] ALLOWED = {6, 8, 10, 12, 15, 20, 24, 30, 40, 60};

    private GearTerms() {
    }

    static void tell(Sentences told) {
        told.term("An object is used for at most 512 calls after it has been made; what later calls "
                + "answer is free.", GearTerms::lastCall);
        told.term("All integer divisions round down.", GearTerms::roundDown);
        told.term("At most 10 gears have the indices 0 to n - 1 in the order in which they were added.",
                GearTerms::tenGears);
        told.term("A gear has 6, 8, 10, 12, 15, 20, 24, 30, 40 or 60 teeth.", GearTerms::allTeeth);
        told.term("Two different gears can be joined by a mesh or by an axle; two gears are joined at "
                + "most once, and there are at most 15 joints.", GearTerms::joints);
        told.term("When a gear with p teeth makes a turn, a gear that meshes with it and has q teeth "
                + "makes p / q turns in the opposite direction, and a gear on the same axle makes a turn "
                + "in the same direction.", GearTerms::turnsOfAllTeeth);
        told.term("A chain from one gear to another one leads over joints.", GearTerms::chains);
        told.term("Along a chain, the turns of each gear follow from those of the gear before it.",
                GearTerms::turnsAlongChains);
        told.term("A joint is only allowed if all chains between two gears tell the same turns, "
                + "directions included.", GearTerms::allowedJoints);
        told.term("A train consists of all gears between which there are chains; a gear without joints "
                + "is a train, too.", GearTerms::trains);
        told.term("Turns are counted in units, 24883200000 of which (120 to the power of 5) are one "
                + "turn; all turns that follow from whole turns of a gear are whole numbers of units.",
                GearTerms::wholeUnits);
        told.term("The angle of a gear is from 0 to 24883199999, initially 0.", GearTerms::angles);
        told.term("When the gear turns forwards by some units, they are added to the angle, when it "
                + "turns backwards, they are subtracted, and the angle is the remainder modulo "
                + "24883200000, which is never negative.", GearTerms::anglesComeRound);
    }

    /** 512 calls on one object, the latest of which change it and tell what it is. */
    private static void lastCall() {
        PlanetWorkshop shop = Tools.withGears(20, 60);
        shop.mesh(0, 1);
        shop.setSpring(0, 200);
        for (int time = 0; time < 125; time++) {
            shop.wind(0, 4);
            shop.release(0, 1);
            shop.reverse(0);
            shop.drops();
        }
        Check.same("releaseTotal(), call 505", shop.releaseTotal(), 125);
        Check.same("angle(1), call 506", shop.angle(1), Tools.TURN / 3 * 2);
        Check.same("woundTotal(), call 507", shop.woundTotal(), 500);
        Check.same("save(), call 508", shop.save(), 2);
        Check.same("buyOil(50), call 509", shop.buyOil(50), 62);
        Check.same("undo(), call 510", shop.undo(), 7);
        Check.same("restore(), call 511", shop.restore(), 2);
        Check.refused("undo(), call 512", Tools.MISSING, shop::undo);
    }

    private static void roundDown() {
        PlanetWorkshop shop = Tools.withGears(20, 60, 12);
        Tools.run(shop, "mesh 01;mesh 12;spring 0 100;wind 0 29;oil 1");
        Check.same("29 / 5", shop.turnsLeft(0), 5);
        Check.same("29 / 5", shop.release(0, 50), 5);
        Check.same("what is left", shop.tension(0), 4);
        Check.same("5 / 3", shop.wear(1), 1);
        Check.same("4 / 5", shop.turnsLeft(0), 0);
        Check.same("4 / 5", shop.release(0, 1), 0);
    }

    private static void tenGears() {
        PlanetWorkshop shop = new PlanetWorkshop();
        for (int gear = 0; gear < 10; gear++) {
            Check.same("addGear", shop.addGear(ALLOWED[9 - gear]), gear);
            Check.same("gearCount()", shop.gearCount(), gear + 1);
        }
        for (int gear = 0; gear < 10; gear++) {
            Check.same("teeth(" + gear + ")", shop.teeth(gear), ALLOWED[9 - gear]);
        }
        Check.refused("an eleventh", Tools.STATE, () -> shop.addGear(6));
        Check.refused("teeth(10)", Tools.INDEX, () -> shop.teeth(10));
        Check.refused("teeth(-1)", Tools.INDEX, () -> shop.teeth(-1));
    }

    private static void allTeeth() {
        for (int teeth : ALLOWED) {
            PlanetWorkshop shop = Tools.withGears(teeth);
            Check.same("teeth(0)", shop.teeth(0), teeth);
            int[] near = {teeth - 1, teeth + 1, -teeth};
            for (int number : near) {
                Check.refused("addGear(" + number + ")", Tools.ARGUMENT, () -> shop.addGear(number));
            }
        }
    }

    private static void joints() {
        PlanetWorkshop shop = Tools.withGears(20, 20, 20, 20, 20, 20);
        int joints = 0;
        for (int one = 0; one < 6; one++) {
            for (int other = one + 1; other < 6; other++) {
                final int first = one;
                final int second = other;
                boolean isMesh = one % 2 != other % 2;
                int size = isMesh ? shop.mesh(one, other) : shop.shareAxle(one, other);
                joints++;
                Check.same("the train", size, one == 0 ? other + 1 : 6);
                Check.same("jointCount()", shop.jointCount(), joints);
                Check.same("joint", shop.joint(other, one), isMesh ? 'm' : 'a');
                Check.refused("a mesh too", Tools.STATE, () -> shop.mesh(second, first));
                Check.refused("an axle too", Tools.STATE, () -> shop.shareAxle(first, second));
            }
            final int same = one;
            Check.refused("a mesh with itself", Tools.ARGUMENT, () -> shop.mesh(same, same));
            Check.refused("an axle with itself", Tools.ARGUMENT, () -> shop.shareAxle(same, same));
        }
        Check.same("jointCount()", shop.jointCount(), 15);
        shop.addGear(6);
        Check.refused("a sixteenth", Tools.STATE, () -> shop.mesh(6, 0));
        Check.refused("a sixteenth", Tools.STATE, () -> shop.shareAxle(0, 6));
    }

    private static void turnsOfAllTeeth() {
        for (int p : ALLOWED) {
            for (int q : ALLOWED) {
                PlanetWorkshop shop = Tools.withGears(p, q, q);
                Tools.run(shop, "mesh 01;axle 12;spring 0 20;wind 0 20");
                long units = Tools.TURN / q * p;
                Check.same("the mesh", shop.unitsPerTurn(0, 1), -units);
                Check.same("the axle", shop.unitsPerTurn(1, 2), Tools.TURN);
                Check.same("both", shop.unitsPerTurnByLowest(0, 2), -units);
                Check.same("the mesh back", shop.unitsPerTurnByLowest(2, 0), -Tools.TURN / p * q);
                shop.release(0, 1);
                long due = ((-units) % Tools.TURN + Tools.TURN) % Tools.TURN;
                Check.same("angle(1)", shop.angle(1), due);
                Check.same("angle(2)", shop.angle(2), due);
            }
        }
    }

    private static void chains() {
        PlanetWorkshop shop = Tools.withGears(ALLOWED);
        int[] order = {7, 2, 9, 0, 4, 1, 8, 3, 6, 5};
        for (int next = 1; next < 10; next++) {
            Check.no("no chain yet", shop.areInTrain(order[0], order[next]));
            if (next % 2 == 0) {
                shop.mesh(order[next], order[next - 1]);
            } else {
                shop.shareAxle(order[next - 1], order[next]);
            }
            for (int before = 0; before < next; before++) {
                Check.yes("a chain", shop.areInTrain(order[next], order[before]));
            }
        }
        shop.separate(order[4], order[5]);
        Check.no("no chain", shop.areInTrain(order[0], order[9]));
        Check.yes("the chain on one side", shop.areInTrain(order[0], order[4]));
        Check.yes("the chain on the other", shop.areInTrain(order[9], order[5]));
    }

    private static void turnsAlongChains() {
        PlanetWorkshop shop = Tools.withGears(60, 6, 15, 8, 24, 10, 40, 12);
        Tools.run(shop, "mesh 01;mesh 12;axle 23;mesh 34;axle 45;axle 56;mesh 67");
        long[] above = {1, -10, 4, 4, -4, -4, -4, 40};
        long[] below = {1, 1, 1, 1, 3, 3, 3, 9};
        for (int gear = 0; gear < 8; gear++) {
            long due = Tools.TURN / below[gear] * above[gear];
            Check.same("unitsPerTurn(0, " + gear + ")", shop.unitsPerTurn(0, gear), due);
            Check.same("unitsPerTurnByLowest(0, " + gear + ")", shop.unitsPerTurnByLowest(0, gear),
                    due);
        }
    }

    private static PlanetWorkshop ring() {
        PlanetWorkshop shop = Tools.withGears(20, 60, 30, 10, 20);
        Tools.run(shop, "mesh 01;axle 12;mesh 23;mesh 34");
        return shop;
    }

    /** Turns of the ring's gears: 1, -1/3, -1/3, 1, -1/2. */
    private static void allowedJoints() {
        Check.same("an axle of 0 and 3", ring().shareAxle(0, 3), 5);
        Check.same("a mesh of 0 and 3 is none", refusal(0, 3), "m");
        Check.same("1 and 3", refusal(1, 3), "ma");
        Check.same("0 and 2", refusal(0, 2), "ma");
        Check.same("0 and 4", refusal(0, 4), "ma");
        Check.same("1 and 4", refusal(1, 4), "ma");
        Check.same("2 and 4", refusal(2, 4), "ma");
        PlanetWorkshop opposite = Tools.withGears(20, 20, 20);
        Tools.run(opposite, "mesh 01;mesh 12");
        Check.refused("three in a ring of meshes", Tools.UNSUPPORTED, () -> opposite.mesh(2, 0));
        Check.same("but an axle", opposite.shareAxle(2, 0), 3);
        PlanetWorkshop trains = Tools.withGears(20, 60);
        Check.same("two trains have no chain yet", trains.shareAxle(0, 1), 2);
    }

    private static String refusal(int one, int other) {
        String refused = "";
        try {
            ring().mesh(other, one);
        } catch (UnsupportedOperationException e) {
            refused += "m";
        }
        try {
            ring().shareAxle(other, one);
        } catch (UnsupportedOperationException e) {
            refused += "a";
        }
        return refused;
    }

    private static void trains() {
        PlanetWorkshop shop = Tools.withGears(6, 6, 6, 6, 6);
        Check.same("a gear without joints", shop.trainSize(4), 1);
        Check.same("its text", Tools.trainText(shop, 4), "4");
        Tools.run(shop, "mesh 40;axle 02");
        String[] due = {"0,2,4", "1", "0,2,4", "3", "0,2,4"};
        for (int gear = 0; gear < 5; gear++) {
            Check.same("the train of " + gear, Tools.trainText(shop, gear), due[gear]);
            Check.same("trainSize", shop.trainSize(gear), due[gear].length() > 1 ? 3 : 1);
        }
        Tools.run(shop, "cut 04");
        Check.same("without its joint", Tools.trainText(shop, 4), "4");
        Check.same("trainSize(0)", shop.trainSize(0), 2);
    }

    private static void wholeUnits() {
        Check.same("a turn", Tools.withGears(6).unitsPerTurn(0, 0), 24883200000L);
        Check.same("120 to the power of 5", 120L * 120L * 120L * 120L * 120L, 24883200000L);
        PlanetWorkshop odd = Tools.withGears(15, 8, 15, 8, 15, 8, 15, 8, 15, 8);
        for (int gear = 0; gear < 9; gear++) {
            if (gear % 2 == 0) {
                odd.mesh(gear, gear + 1);
            } else {
                odd.shareAxle(gear, gear + 1);
            }
        }
        Check.same("an odd number", odd.unitsPerTurn(0, 9), -225L * 225L * 225L * 225L * 225L);
        Check.same("an odd number", odd.unitsPerTurnByLowest(0, 9), -576650390625L);
        Check.same("no third of it", odd.unitsPerTurn(9, 0), -64L * 64L * 64L * 64L * 64L);
        Check.same("no third of it", odd.unitsPerTurnByLowest(9, 0), -1073741824L);
        Tools.run(odd, "spring 0 200;wind 0 200;run 0 1");
        Check.same("its angle", odd.angle(9), 24L * Tools.TURN - 576650390625L);
    }

    /** A step of 248832 units on both sides of 0. */
    private static void angles() {
        for (int gear = 0; gear < 10; gear++) {
            Check.same("initially", Tools.withGears(ALLOWED).angle(gear), 0L);
        }
        PlanetWorkshop shop = QueryPromises.slow();
        Check.same("initially", shop.angle(0), 0L);
        shop.release(9, 1);
        Check.same("below 0", shop.angle(0), 24882951168L);
        shop.reverse(9);
        shop.release(9, 1);
        Check.same("just 0", shop.angle(0), 0L);
        shop.release(9, 1);
        Check.same("above 0", shop.angle(0), 248832L);
        shop.reverse(9);
        shop.release(9, 1);
        Check.same("just 0 again", shop.angle(0), 0L);
        Check.same("whole turns", shop.angle(9), 0L);
    }

    private static void anglesComeRound() {
        PlanetWorkshop shop = Tools.withGears(40, 24, 60);
        Tools.run(shop, "mesh 01;mesh 12;spring 0 200;wind 0 200");
        long ofMiddle = 0L;
        long ofLast = 0L;
        for (int turns = 1; turns <= 9; turns++) {
            shop.release(0, turns % 4 + 1);
            ofMiddle -= Tools.TURN / 3 * 5 * (turns % 4 + 1);
            ofLast += Tools.TURN / 3 * 2 * (turns % 4 + 1);
            Check.same("angle(1)", shop.angle(1), Math.floorMod(ofMiddle, Tools.TURN));
            Check.same("angle(2)", shop.angle(2), Math.floorMod(ofLast, Tools.TURN));
            Check.same("angle(0)", shop.angle(0), 0L);
        }
        PlanetWorkshop fast = Tools.withGears(60, 6, 60, 6, 60, 6, 60, 6, 60, 8);
        for (int gear = 0; gear < 9; gear++) {
            Tools.run(fast, (gear % 2 == 0 ? "mesh " : "axle ") + gear + (gear + 1));
        }
        Tools.run(fast, "spring 0 200;wind 0 200;run 0 10");
        Check.same("750000 turns at once", fast.angle(9), 0L);
        PlanetWorkshop oneTurn = Tools.withGears(20, 60);
        Tools.run(oneTurn, "mesh 01;spring 0 20;wind 0 20;reverse 0;run 0 2");
        Check.same("two thirds", oneTurn.angle(1), Tools.TURN / 3 * 2);
        oneTurn.release(0, 1);
        Check.same("a whole turn forwards", oneTurn.angle(1), 0L);
    }
}
