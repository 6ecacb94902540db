import java.util.ArrayList;
import java.util.List;
import java.util.function.Consumer;
import java.util.function.Supplier;

/** What can be seen of a workshop. Each object is used for fewer than 512 calls. */
final class View {
    private static final int PARTS = 14;

    private View() {
    }

    /** A refused call throws just this, and changes nothing that can be seen afterwards. */
    static void refused(String call, Class<? extends RuntimeException> due,
            Supplier<PlanetWorkshop> build, Consumer<PlanetWorkshop> code) {
        PlanetWorkshop shop = build.get();
        Check.refused(call, due, () -> code.accept(shop));
        for (int part = 0; part < PARTS; part++) {
            PlanetWorkshop other = build.get();
            try {
                code.accept(other);
            } catch (RuntimeException e) {
                // What it throws is checked above.
            }
            Check.same("what is seen after " + call, part(other, part), part(build.get(), part));
        }
    }

    /** A call that is no change and answers normally changes nothing either. */
    static void unchanged(String call, Supplier<PlanetWorkshop> build,
            Consumer<PlanetWorkshop> code) {
        for (int part = 0; part < PARTS; part++) {
            PlanetWorkshop shop = build.get();
            code.accept(shop);
            Check.same("what is seen after " + call, part(shop, part), part(build.get(), part));
        }
    }

    /** Two workshops are alike in all but the script buffer and what is told of failed scripts. */
    static void alike(String call, Supplier<PlanetWorkshop> one, Supplier<PlanetWorkshop> other) {
        Check.same("the output text after " + call, text(one.get()), text(other.get()));
        for (int part = 3; part < PARTS; part++) {
            Check.same("what is seen after " + call, part(one.get(), part), part(other.get(), part));
        }
    }

    static String part(PlanetWorkshop shop, int part) {
        List<String> seen = new ArrayList<>();
        switch (part) {
            case 0 -> seen.add(text(shop) + answer(shop::errorPosition) + answer(shop::failedCommand));
            case 1 -> seen.add(answer(() -> shop.type('~')) + answer(() -> shop.type('~')));
            case 2 -> seen.add(answer(shop::runScript) + answer(shop::undo));
            case 3 -> seen.add(answer(shop::restore) + answer(shop::undo));
            default -> {
                for (int time = 4; time < part; time++) {
                    seen.add(answer(shop::undo));
                }
            }
        }
        seen.add(state(shop));
        return seen.toString();
    }

    /** Everything that undo and the snapshot cover. */
    static String state(PlanetWorkshop shop) {
        StringBuilder seen = new StringBuilder();
        int gears = shop.gearCount();
        seen.append(gears).append(' ').append(shop.jointCount()).append(' ')
                .append(shop.planetCount()).append(' ').append(shop.drops()).append(' ')
                .append(shop.woundTotal()).append(' ').append(shop.tensionTotal()).append(' ')
                .append(shop.tensionByAccounts()).append(' ').append(shop.releaseTotal());
        for (int index = 0; index < gears; index++) {
            final int gear = index;
            int length = shop.renderGear(gear);
            seen.append("; ").append(shop.teeth(gear)).append(' ').append(shop.angle(gear))
                    .append(' ').append(answer(() -> shop.wear(gear))).append(shop.hasRatchet(gear))
                    .append(' ').append(answer(() -> shop.tension(gear)))
                    .append(answer(() -> shop.springSize(gear))).append(length)
                    .append(shop.outputAt(length - 1));
            for (int other = 0; other < gear; other++) {
                final int second = other;
                seen.append(' ').append(answer(() -> shop.joint(gear, second)));
            }
        }
        for (int planet = 0; planet < shop.planetCount(); planet++) {
            seen.append("; ").append(shop.gearOf(planet));
        }
        return seen.toString();
    }

    static String text(PlanetWorkshop shop) {
        StringBuilder text = new StringBuilder();
        for (int index = 0; index < 60; index++) {
            try {
                text.append(shop.outputAt(index));
            } catch (IndexOutOfBoundsException e) {
                return text.toString();
            }
        }
        return text + "...";
    }

    static String answer(Supplier<Object> call) {
        try {
            return call.get() + " ";
        } catch (RuntimeException e) {
            return "- ";
        }
    }
}
