import java.util.function.Supplier;

/** Tries a call at both ends of what the document allows, and on either side of them. */
final class Bounds {
    interface Call {
        Object on(AccentHouse house, int number);
    }

    private static final Class<? extends RuntimeException> BOUNDS = IndexOutOfBoundsException.class;
    private static final Class<? extends RuntimeException> ARGUMENT = IllegalArgumentException.class;

    private Bounds() {
    }

    /** "There is no such lodger" in an empty house, in one of a single lodger and in a full one. */
    static void lodgers(Call call) {
        for (int count : new int[] {0, 1, 4, 12}) {
            between(BOUNDS, () -> crowd(count), 0, count - 1, call);
        }
        between(BOUNDS, Bounds::afterLeaving, 0, 2, call);
    }

    /** The spare place behind the last lodger is that of one who was there before. */
    private static AccentHouse afterLeaving() {
        AccentHouse house = crowd(4);
        house.moveOut(1);
        return house;
    }

    static void floors(Call call) {
        between(BOUNDS, Bounds::onEachFloor, 0, 4, call);
    }

    static void vowels(Call call) {
        between(BOUNDS, AccentHouse::new, 0, 4, call);
    }

    static void slots(Call call) {
        between(BOUNDS, Bounds::withSavedStates, 0, 1, call);
    }

    /** A range outside which the call throws an IllegalArgumentException. */
    static void range(int low, int high, Call call) {
        between(ARGUMENT, AccentHouse::new, low, high, call);
    }

    static void between(Class<? extends RuntimeException> due, Supplier<AccentHouse> made, int low, int high,
            Call call) {
        for (int wrong : new int[] {low - 1, high + 1, Integer.MIN_VALUE, Integer.MAX_VALUE}) {
            // An object of its own each time: to ask it for everything takes many of its 512 calls.
            AccentHouse house = made.get();
            String before = Check.everything(house);
            Check.rejects("with " + wrong, due, () -> call.on(house, wrong));
            Check.equal("all that stands after " + wrong, Check.everything(house), before);
        }
        for (int right = low; right <= high; right += Math.max(1, high - low)) {
            int number = right;
            AccentHouse fresh = made.get();
            Check.answers("with " + number, () -> call.on(fresh, number));
        }
    }

    /** Asks an object of its own for each number from 0 up, as many as answers are due. */
    static void each(Supplier<AccentHouse> made, Call call, Object... due) {
        for (int number = 0; number < due.length; number++) {
            Check.equal("of " + number, call.on(made.get(), number), due[number]);
        }
    }

    /** A house of so many lodgers with the landlady's accent, four on each floor. */
    static AccentHouse crowd(int count) {
        AccentHouse house = Check.withLines("");
        for (int i = 0; i < count; i++) {
            house.moveIn(i / 4, 0, 44444);
        }
        return house;
    }

    private static AccentHouse onEachFloor() {
        AccentHouse house = Check.withLines("");
        for (int floor = 0; floor < 5; floor++) {
            house.moveIn(floor, 0, 11111 * floor);
        }
        return house;
    }

    private static AccentHouse withSavedStates() {
        AccentHouse house = new AccentHouse();
        house.save(0);
        house.save(1);
        return house;
    }
}
