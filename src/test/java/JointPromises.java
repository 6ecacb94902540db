import java.util.function.Supplier;

/** The sentences of promises 1 to 5: new objects, gears and joints. */
final class JointPromises {
    private static final int[] ALLOWED = {6, 8, 10, 12, 15, 20, 24, 30, 40, 60};
    private static final String RETURNS_TRAIN =
            "Returns the number of gears of their train after the call.";
    private static final String NO_GEAR_OF_TWO =
            "Throws IndexOutOfBoundsException if there is no such gear, for either argument";

    private JointPromises() {
    }

    static void tell(Sentences told) {
        told.promise(1, "Creates a workshop without gears and planets.", JointPromises::newObject);
        told.promise(1, "Creates a workshop without gears and planets.",
                JointPromises::newObjectsAreApart);
        told.promise(2, "Adds a dry gear without a ratchet.", JointPromises::newGear);
        told.promise(2, "Adds a dry gear without a ratchet.", JointPromises::newGearInAnOldPlace);
        told.promise(2, "Returns the index of the gear.", JointPromises::indexOfNewGear);
        told.promise(2, "Throws IllegalArgumentException if a gear cannot have so many teeth",
                JointPromises::wrongTeeth);
        told.promise(2, "Throws IllegalStateException if there are 10 gears",
                JointPromises::tenGears);
        told.promise(3, "Joins two gears by a mesh.", () -> joins(PlanetWorkshop::mesh, 'm'));
        told.promise(4, "Joins two gears by an axle.", () -> joins(PlanetWorkshop::shareAxle, 'a'));
        tellOfBoth(told, 3, PlanetWorkshop::mesh);
        tellOfBoth(told, 4, PlanetWorkshop::shareAxle);
        told.promise(3, "Throws UnsupportedOperationException if the joint is not allowed",
                JointPromises::meshNotAllowed);
        told.promise(4, "Throws UnsupportedOperationException if the joint is not allowed",
                JointPromises::axleNotAllowed);
        told.promise(5, "Removes the joint between two gears; springs stay in their gears.",
                JointPromises::removes);
        told.promise(5, "Removes the joint between two gears; springs stay in their gears.",
                JointPromises::springsStay);
        told.promise(5, "Returns the number of joints after the call.",
                JointPromises::jointsAfterSeparate);
        told.promise(5, NO_GEAR_OF_TWO, () -> Calls.noSuchGearOfTwo(PlanetWorkshop::separate));
        told.promise(5, "Throws NoSuchElementException if they are not joined",
                JointPromises::separateOfApart);
    }

    private static void tellOfBoth(Sentences told, int promise, Calls.OnTwo join) {
        String same = "Throws IllegalArgumentException if both gears are the same";
        String state = "Throws IllegalStateException if they are joined, there are 15 joints, or "
                + "their trains are different and both have a spring";
        told.promise(promise, RETURNS_TRAIN, () -> trainAfterJoin(join));
        told.promise(promise, NO_GEAR_OF_TWO, () -> Calls.noSuchGearOfTwo(join));
        told.promise(promise, same, () -> sameGears(join));
        told.promise(promise, state, () -> joinedAlready(join));
        told.promise(promise, state, () -> fifteenJoints(join));
        told.promise(promise, state, () -> twoSprings(join));
        told.promise(promise, state, () -> oneSpring(join));
    }

    private static void newObject() {
        PlanetWorkshop shop = new PlanetWorkshop();
        Check.same("what is seen", View.state(shop), "0 0 0 12 0 0 0 0");
        Check.refused("outputAt(0)", Tools.INDEX, () -> shop.outputAt(0));
        Check.refused("errorPosition()", Tools.MISSING, shop::errorPosition);
        Check.refused("failedCommand()", Tools.MISSING, shop::failedCommand);
        Check.refused("undo()", Tools.MISSING, shop::undo);
        Check.refused("restore()", Tools.STATE, shop::restore);
        Check.refused("planetByAngle(0)", Tools.MISSING, () -> shop.planetByAngle(0));
        Check.refused("meanTeeth()", ArithmeticException.class, shop::meanTeeth);
        Check.refused("dryShare()", ArithmeticException.class, shop::dryShare);
        Check.yes("isConsistent()", shop.isConsistent());
        Check.same("type", shop.type('a'), 1);
    }

    private static void newObjectsAreApart() {
        PlanetWorkshop first = Shops.rich();
        String seen = View.state(first);
        PlanetWorkshop second = new PlanetWorkshop();
        Check.same("what is seen of the second", View.state(second), "0 0 0 12 0 0 0 0");
        second.addGear(6);
        second.oil(0);
        Check.same("what is seen of the first", View.state(first), seen);
        Check.same("its script", first.runScript(), 1);
    }

    private static void newGear() {
        PlanetWorkshop shop = new PlanetWorkshop();
        for (int gear = 0; gear < 10; gear++) {
            shop.addGear(ALLOWED[gear]);
            Check.yes("isDry", shop.isDry(gear));
            Check.no("hasRatchet", shop.hasRatchet(gear));
            Check.same("angle", shop.angle(gear), 0L);
            Check.same("trainSize", shop.trainSize(gear), 1);
            Check.same("description", Tools.gearText(shop, gear), gear + ":" + ALLOWED[gear] + "d");
        }
    }

    /** What the gear had that was there before is gone with it. */
    private static void newGearInAnOldPlace() {
        PlanetWorkshop shop = Tools.withGears(20);
        shop.save();
        shop.addGear(60);
        Tools.run(shop, "mesh 01;spring 1 50;wind 1 50;reverse 1;run 1 1");
        Tools.run(shop, "oil 1;planet 1;ratchet 1");
        shop.undo();
        shop.undo();
        shop.undo();
        Check.same("addGear(60)", shop.addGear(60), 1);
        Check.same("after undo", Tools.gearText(shop, 1), "1:60d");
        Check.same("after undo", Tools.trainText(shop, 1), "1");
        shop.restore();
        Check.same("addGear(30)", shop.addGear(30), 1);
        Check.same("after restore", Tools.gearText(shop, 1), "1:30d");
        Check.same("angle(1)", shop.angle(1), 0L);
        Check.same("angle(0)", shop.angle(0), 0L);
    }

    private static void indexOfNewGear() {
        PlanetWorkshop shop = new PlanetWorkshop();
        for (int index = 0; index < 10; index++) {
            Check.same("addGear(6)", shop.addGear(6), index);
        }
        shop.undo();
        shop.undo();
        Check.same("addGear(8) after undo", shop.addGear(8), 8);
    }

    private static void wrongTeeth() {
        for (int teeth = -5; teeth <= 125; teeth++) {
            final int number = teeth;
            boolean isAllowed = false;
            for (int one : ALLOWED) {
                isAllowed |= one == number;
            }
            if (isAllowed) {
                Check.same("addGear(" + number + ")", new PlanetWorkshop().addGear(number), 0);
            } else {
                Check.refused("addGear(" + number + ")", Tools.ARGUMENT,
                        () -> new PlanetWorkshop().addGear(number));
            }
        }
        int[] wrong = {0, 5, 7, 59, 61, -6, Integer.MIN_VALUE, Integer.MAX_VALUE, 6 + (1 << 16)};
        for (int number : wrong) {
            View.refused("addGear(" + number + ")", Tools.ARGUMENT, Shops::rich,
                    shop -> shop.addGear(number));
        }
    }

    private static void tenGears() {
        for (int teeth : ALLOWED) {
            View.refused("an eleventh gear", Tools.STATE, Shops::full, shop -> shop.addGear(teeth));
        }
        PlanetWorkshop shop = Tools.withGears(6, 6, 6, 6, 6, 6, 6, 6, 6);
        Check.same("a tenth gear", shop.addGear(6), 9);
        Check.refused("an eleventh gear", Tools.STATE, () -> shop.addGear(6));
        shop.undo();
        Check.same("a tenth gear after undo", shop.addGear(6), 9);
    }

    private static void joins(Calls.OnTwo join, char kind) {
        PlanetWorkshop shop = Tools.withGears(6, 8, 10, 12, 15, 20, 24, 30, 40, 60);
        for (int gear = 0; gear < 10; gear += 2) {
            join.call(shop, gear + 1, gear);
            Check.same("joint", shop.joint(gear, gear + 1), kind);
            Check.same("joint the other way round", shop.joint(gear + 1, gear), kind);
        }
        Check.same("jointCount", shop.jointCount(), 5);
        Check.refused("joint(1, 2)", Tools.MISSING, () -> shop.joint(1, 2));
        Check.refused("joint(0, 9)", Tools.MISSING, () -> shop.joint(0, 9));
    }

    private static void trainAfterJoin(Calls.OnTwo join) {
        PlanetWorkshop shop = Tools.withGears(20, 20, 20, 20, 20, 20, 20, 20, 20, 20);
        Check.same("two gears", join.call(shop, 0, 1), 2);
        Check.same("two other gears", join.call(shop, 9, 8), 2);
        Check.same("three gears", join.call(shop, 2, 1), 3);
        Check.same("two trains", join.call(shop, 8, 2), 5);
        for (int gear = 3; gear < 8; gear++) {
            Check.same("one more", join.call(shop, gear, gear - 1), gear + 3);
        }
        Check.same("in one train", join.call(shop, 0, 3), 10);
    }

    private static void sameGears(Calls.OnTwo join) {
        for (int gear = 0; gear < 4; gear++) {
            final int same = gear;
            View.refused("the same gears", Tools.ARGUMENT, Shops::rich,
                    shop -> join.call(shop, same, same));
        }
        for (int gear = 0; gear < 10; gear++) {
            final int same = gear;
            Check.refused("the same gears, with 15 joints", Tools.ARGUMENT,
                    () -> join.call(Shops.full(), same, same));
        }
    }

    private static void joinedAlready(Calls.OnTwo join) {
        int[][] joined = {{0, 1}, {1, 0}, {2, 3}, {3, 2}};
        for (int[] pair : joined) {
            View.refused("joined gears", Tools.STATE, Shops::rich,
                    shop -> join.call(shop, pair[0], pair[1]));
        }
        PlanetWorkshop shop = Tools.withGears(20, 20);
        join.call(shop, 0, 1);
        shop.separate(1, 0);
        Check.same("once separated", join.call(shop, 1, 0), 2);
    }

    /** 13, 14 and 15 joints: the fifteenth is allowed, a sixteenth is not, whatever it joins. */
    private static void fifteenJoints(Calls.OnTwo join) {
        Supplier<PlanetWorkshop> build = () -> {
            PlanetWorkshop shop = Tools.withGears(20, 20, 20, 20, 20, 20, 20, 20, 20, 20);
            for (int one = 0; one < 6; one++) {
                for (int other = one + 1; other < 6 && shop.jointCount() < 13; other++) {
                    shop.shareAxle(one, other);
                }
            }
            return shop;
        };
        PlanetWorkshop shop = build.get();
        Check.same("jointCount", shop.jointCount(), 13);
        join.call(shop, 6, 7);
        Check.same("a fifteenth joint", join.call(shop, 7, 8), 3);
        Check.same("jointCount", shop.jointCount(), 15);
        Check.refused("a sixteenth joint", Tools.STATE, () -> join.call(shop, 8, 9));
        Check.refused("in one train", Tools.STATE, () -> join.call(shop, 3, 5));
        Check.same("jointCount", shop.jointCount(), 15);
        shop.separate(0, 1);
        Check.same("in its place", join.call(shop, 8, 9), 4);
        Check.refused("a sixteenth joint again", Tools.STATE, () -> join.call(shop, 6, 0));
        View.refused("a sixteenth joint", Tools.STATE, Shops::full, full -> join.call(full, 9, 0));
    }

    private static void twoSprings(Calls.OnTwo join) {
        int[][] pairs = {{0, 2}, {0, 3}, {1, 2}, {1, 3}, {2, 0}, {3, 0}, {2, 1}, {3, 1}};
        for (int[] pair : pairs) {
            View.refused("two trains with springs", Tools.STATE, Shops::rich,
                    shop -> join.call(shop, pair[0], pair[1]));
        }
    }

    /** A spring in one of the trains, or in the only one, is no hindrance. */
    private static void oneSpring(Calls.OnTwo join) {
        PlanetWorkshop first = Tools.withGears(20, 20, 20);
        first.setSpring(0, 10);
        Check.same("a spring in the first", join.call(first, 0, 1), 2);
        Check.same("a spring in the train of the second", join.call(first, 2, 1), 3);
        PlanetWorkshop second = Tools.withGears(20, 20);
        second.setSpring(1, 10);
        Check.same("a spring in the second", join.call(second, 0, 1), 2);
        PlanetWorkshop ring = Tools.withGears(20, 20, 20, 20);
        ring.mesh(0, 1);
        ring.shareAxle(0, 2);
        ring.mesh(2, 3);
        ring.setSpring(1, 10);
        Check.same("a joint in a train with a spring",
                isMesh(join) ? join.call(ring, 1, 2) : join.call(ring, 1, 3), 4);
    }

    private static boolean isMesh(Calls.OnTwo join) {
        PlanetWorkshop shop = Tools.withGears(6, 8);
        join.call(shop, 0, 1);
        return shop.joint(0, 1) == 'm';
    }

    private static PlanetWorkshop chain() {
        PlanetWorkshop shop = Tools.withGears(20, 60, 20, 15, 20);
        shop.mesh(0, 1);
        shop.mesh(1, 2);
        shop.mesh(2, 3);
        shop.shareAxle(3, 4);
        return shop;
    }

    /** Turns of the chain's gears: 1, -1/3, 1, -4/3, -4/3. */
    private static void meshNotAllowed() {
        int[][] wrong = {{0, 2}, {2, 0}, {0, 4}, {4, 0}, {1, 3}, {3, 1}, {1, 4}, {2, 4}};
        for (int[] pair : wrong) {
            View.refused("mesh(" + pair[0] + ", " + pair[1] + ")", Tools.UNSUPPORTED,
                    JointPromises::chain, shop -> shop.mesh(pair[0], pair[1]));
        }
        Check.same("mesh(0, 3)", chain().mesh(0, 3), 5);
        Check.same("mesh(3, 0)", chain().mesh(3, 0), 5);
    }

    private static void axleNotAllowed() {
        int[][] wrong = {{0, 3}, {3, 0}, {0, 4}, {1, 3}, {3, 1}, {1, 4}, {2, 4}, {4, 2}};
        for (int[] pair : wrong) {
            View.refused("shareAxle(" + pair[0] + ", " + pair[1] + ")", Tools.UNSUPPORTED,
                    JointPromises::chain, shop -> shop.shareAxle(pair[0], pair[1]));
        }
        Check.same("shareAxle(0, 2)", chain().shareAxle(0, 2), 5);
        Check.same("shareAxle(2, 0)", chain().shareAxle(2, 0), 5);
        PlanetWorkshop opposite = Tools.withGears(20, 20, 20);
        opposite.mesh(0, 1);
        opposite.shareAxle(1, 2);
        Check.refused("as fast, but the other way", Tools.UNSUPPORTED,
                () -> opposite.shareAxle(2, 0));
    }

    private static void removes() {
        PlanetWorkshop shop = chain();
        shop.separate(2, 1);
        Check.refused("joint(1, 2)", Tools.MISSING, () -> shop.joint(1, 2));
        Check.refused("joint(2, 1)", Tools.MISSING, () -> shop.joint(2, 1));
        Check.same("joint(0, 1)", shop.joint(0, 1), 'm');
        Check.same("joint(2, 3)", shop.joint(2, 3), 'm');
        Check.same("joint(3, 4)", shop.joint(3, 4), 'a');
        Check.no("areInTrain(0, 4)", shop.areInTrain(0, 4));
        Check.same("trainSize(0)", shop.trainSize(0), 2);
        Check.same("trainSize(4)", shop.trainSize(4), 3);
        shop.separate(3, 4);
        Check.same("trainSize(4)", shop.trainSize(4), 1);
        PlanetWorkshop ring = Tools.withGears(20, 20, 20);
        ring.shareAxle(0, 1);
        ring.shareAxle(1, 2);
        ring.shareAxle(2, 0);
        ring.separate(0, 1);
        Check.yes("a ring is a train still", ring.areInTrain(0, 1));
    }

    private static void springsStay() {
        PlanetWorkshop shop = chain();
        shop.setSpring(1, 60);
        shop.wind(1, 60);
        shop.reverse(1);
        shop.separate(1, 2);
        shop.separate(0, 1);
        Check.same("gear 1", Tools.gearText(shop, 1), "1:60ds60/60-");
        Check.same("springOf(1)", shop.springOf(1), 1);
        Check.refused("springOf(0)", Tools.MISSING, () -> shop.springOf(0));
        Check.refused("springOf(2)", Tools.MISSING, () -> shop.springOf(2));
        Check.same("setSpring(2, 10)", shop.setSpring(2, 10), 2);
        Check.refused("mesh(1, 2)", Tools.STATE, () -> shop.mesh(1, 2));
    }

    private static void jointsAfterSeparate() {
        PlanetWorkshop shop = Shops.full();
        int left = 15;
        for (int one = 0; one < 10; one++) {
            for (int other = one + 1; other < 10 && other < one + 3; other++) {
                if (other < one + 2 || one < 6) {
                    left--;
                    Check.same("separate", shop.separate(other, one), left);
                }
            }
        }
        Check.same("jointCount", shop.jointCount(), 0);
        Check.refused("separate(0, 1)", Tools.MISSING, () -> shop.separate(0, 1));
    }

    private static void separateOfApart() {
        int[][] apart = {{0, 0}, {3, 3}, {0, 2}, {2, 0}, {1, 3}, {3, 0}, {1, 2}};
        for (int[] pair : apart) {
            View.refused("separate(" + pair[0] + ", " + pair[1] + ")", Tools.MISSING, Shops::rich,
                    shop -> shop.separate(pair[0], pair[1]));
        }
        int[][] onlyByChain = {{0, 2}, {0, 4}, {4, 1}};
        for (int[] pair : onlyByChain) {
            View.refused("separate of one train", Tools.MISSING, JointPromises::chain,
                    shop -> shop.separate(pair[0], pair[1]));
        }
        PlanetWorkshop shop = chain();
        shop.separate(0, 1);
        Check.refused("once more", Tools.MISSING, () -> shop.separate(0, 1));
        Check.refused("the other way round", Tools.MISSING, () -> shop.separate(1, 0));
    }
}
