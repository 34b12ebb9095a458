import java.lang.reflect.Method;
import java.lang.reflect.Modifier;
import java.util.Arrays;
import java.util.Map;
import java.util.Set;
import java.util.TreeSet;
import java.util.regex.Matcher;
import java.util.regex.Pattern;

/** The sentences that name no boundary: what the house is, which one an argument means, what is answered. */
final class PlainSentences {
    private static final String LODGER = "- `lodger`: a lodger";
    private static final String FLOOR = "- `floor`: a floor";
    private static final String VOWEL = "- `vowel`: a vowel";
    private static final int NONE = AccentHouse.NONE;

    private PlainSentences() {
    }

    static void run() {
        whatItIs();
        numbers();
        captions();
        theHouse();
        lodgers();
        names();
        floors();
        vowels();
        accents();
        forecasts();
        accounts();
        changes();
        output();
    }

    private static void says(String sentence) {
        Document.says(Document.TERMS, sentence);
    }

    /**
     * Day 5. On floor 0 q and abc have the landlady's accent; on floor 2 live wx, in debt from the first
     * day on, and longer, who can pay for a day more. What two lodgers might have alike mostly differs.
     */
    private static AccentHouse four() {
        return Check.with("house 5 6;landlady 4 4 4 4 4;lodger q 0 30 4 4 4 4 8;days 2;lodger wx 2 0 9 9 4 4 4;days 1"
                + ";lodger abc 0 100 4 4 4 4 5;days 1;lodger longer 2 50 4 4 4 0 0;days 1");
    }

    private static void each(int promise, String sentence, Bounds.Call call, Object... due) {
        Document.says(promise, sentence);
        Bounds.each(PlainSentences::four, call, due);
    }

    private static void whatItIs() {
        says("A day-by-day simulator of a boarding house whose lodgers pick up accents from each other and from a strict"
                + " landlady.");
        AccentHouse house = Check.withLines(";lodger a 0 99 0 4 4 4 4;lodger b 1 0 9 9 4 4 4;lodger c 1 0 9 9 4 4 0");
        house.advance(1);
        Check.equal("from the landlady", Check.accent(house, 0), "14444");
        Check.equal("from each other", Check.accent(house, 1) + " " + Check.accent(house, 2), "99443 99441");

        says("An object is used for at most 512 calls after it has been made; what later calls answer is free.");
        AccentHouse used = new AccentHouse();
        for (int call = 1; call < 512; call++) {
            used.pay(0, 1);
        }
        Check.equal("its 512th call", used.balanceOf(0), 15 + 511);

        says("The house is described by a text that is parsed from a byte buffer.");
        AccentHouse described = new AccentHouse();
        described.append(0x686f7573, 0x65203720, 0x383b6c61, 0x6e646c61, 0x64792031);
        described.append(0x20322033, 0x20342035, 0x20202020, 0x20202020, 0x20202020);
        Check.equal("its lodgers", described.load(40), 0);
        Check.equal("the house", Check.state(described), "day 0 rent 7 tolerance 8 landlady 12345 evictions 0 paid 0"
                + " charged 0 settled 0");

        says("Lodgers pay rent, take lessons from the landlady, imitate the other lodgers of their floor at dinner,"
                + " and are evicted at a weekly inspection.");
        AccentHouse week = Check.withLines(";lodger a 0 99 4 4 4 4 9;lodger b 1 0 9 9 9 9 9;lodger c 1 0 9 9 9 9 7");
        week.advance(6);
        Check.equal("rents", week.balanceOf(0) + " " + week.balanceOf(1), "69 -60");
        Check.equal("lessons", week.lessonsOf(0) + " " + week.lessonsOf(1), "5 0");
        Check.equal("the accent learnt", Check.accent(week, 0), "44444");
        Check.equal("slips", week.slipsOf(0) + " " + week.slipsOf(1) + " " + week.slipsOf(2), "0 1 1");
        Check.equal("the accents imitated", Check.accent(week, 1) + " " + Check.accent(week, 2), "99998 99998");
        Check.equal("evictions", week.evictions() + " " + week.advance(1) + " " + week.evictions(), "0 2 2");

        says("The landlady has an accent.");
        Check.equal("hers", Check.with("house 5 6;landlady 9 0 8 1 7").landladyVowel(2), 8);
    }

    private static void numbers() {
        says("All numbers are integers unless a method returns double or float.");
        Map<String, Class<?>> others = Map.of("meanDistance", double.class, "rhymingShare", float.class,
                "rhymes", boolean.class, "rhymesWithLandlady", boolean.class, "mustGo", boolean.class,
                "nameLetter", char.class, "outputCharacter", char.class);
        for (Method method : AccentHouse.class.getDeclaredMethods()) {
            if (Modifier.isPublic(method.getModifiers())) {
                Check.equal(method.getName(), method.getReturnType(), others.getOrDefault(method.getName(), int.class));
            }
        }
    }

    /** Each call of the face is asked for once; those under 'changes' alone add a recorded change. */
    private static void captions() {
        Set<String> named = new TreeSet<>();
        for (String caption : Document.captions()) {
            says(caption);
            Matcher call = Pattern.compile("`(\\w+)`").matcher(caption);
            while (call.find()) {
                Check.equal("named once: " + call.group(1), named.add(call.group(1)), true);
                checkUnder(caption, call.group(1));
            }
        }
        Set<String> shown = new TreeSet<>();
        for (Method method : AccentHouse.class.getDeclaredMethods()) {
            if (Modifier.isPublic(method.getModifiers())) {
                shown.add(method.getName());
            }
        }
        Check.equal("all that are named", named, shown);
    }

    private static void checkUnder(String caption, String name) {
        AccentHouse house = new AccentHouse();
        house.save(0);
        house.pay(0, 1);
        house.writeFloor(0);
        Check.feed(house, Check.HEADER);
        String before = Check.everything(house);
        Check.answers(name, () -> call(house, name));
        int due = 1;
        if (caption.contains("---- changes.")) {
            due = 2;
        } else if (name.equals("load") || name.equals("undo")) {
            due = 0;
        }
        Check.equal("undoCount after " + name, house.undoCount(), due);
        if (caption.contains("nothing changes.")) {
            Check.equal("all after " + name, Check.everything(house), before);
        }
    }

    private static Object call(AccentHouse house, String name) {
        Map<String, Integer> last = Map.of("load", Check.HEADER.length(), "advance", 1, "pay", 1);
        for (Method method : AccentHouse.class.getDeclaredMethods()) {
            if (method.getName().equals(name)) {
                Object[] arguments = new Object[method.getParameterCount()];
                Arrays.fill(arguments, 0);
                if (last.containsKey(name)) {
                    arguments[arguments.length - 1] = last.get(name);
                }
                try {
                    return method.invoke(house, arguments);
                } catch (ReflectiveOperationException e) {
                    throw new IllegalStateException(e.getCause());
                }
            }
        }
        throw new IllegalStateException("there is no " + name);
    }

    private static void theHouse() {
        Document.says(7, "Returns the number of lodgers in the house.");
        AccentHouse house = four();
        Check.equal("of the text", house.lodgerCount(), 4);
        house.moveIn(4, 0, 0);
        Check.equal("with one more", house.lodgerCount(), 5);
        house.moveOut(0);
        house.moveOut(0);
        Check.equal("with two less", house.lodgerCount(), 3);

        Document.says(8, "Returns the base rent.");
        Check.equal("of the text", house.baseRent(), 5);
        house.setBaseRent(17);
        Check.equal("that was set", house.baseRent(), 17);

        Document.says(9, "Returns the tolerance.");
        Check.equal("of the text", house.tolerance(), 6);
        house.setTolerance(17);
        Check.equal("that was set", house.tolerance(), 17);

        Document.says(11, "Returns a position of the landlady's accent.");
        Check.equal("of the text", house.landladyVowel(3), 4);
        house.setLandladyVowel(3, 7);
        Check.equal("that was set", house.landladyVowel(3), 7);
        Check.equal("of another vowel", house.landladyVowel(2), 4);
    }

    private static void lodgers() {
        each(15, "Returns the floor of a lodger.", AccentHouse::floorOf, 0, 2, 0, 2);
        each(15, LODGER, AccentHouse::floorOf, 0, 2, 0, 2);
        Document.says(15, "Returns the floor.");
        AccentHouse moved = four();
        moved.moveTo(1, 4);
        Check.equal("moved to", moved.floorOf(1), 4);

        each(16, "Returns the balance of a lodger.", AccentHouse::balanceOf, 5, -45, 90, 35);
        each(16, LODGER, AccentHouse::balanceOf, 5, -45, 90, 35);
        each(17, "Returns a position of a lodger's accent.", (house, vowel) -> house.vowelOf(1, vowel), 8, 9, 4, 4, 4);
        each(17, LODGER, (house, lodger) -> house.vowelOf(lodger, 0), 4, 8, 4, 5);
        each(18, LODGER, AccentHouse::lessonsOf, 4, 0, 1, 1);
        each(19, LODGER, AccentHouse::slipsOf, 0, 1, 0, 1);
        each(20, LODGER, AccentHouse::daysStayed, 5, 3, 2, 1);
    }

    private static void names() {
        each(21, "Returns the length of a lodger's name.", AccentHouse::nameLength, 1, 2, 3, 6);
        each(21, LODGER, AccentHouse::nameLength, 1, 2, 3, 6);
        each(22, "Returns a letter of a lodger's name.", (house, index) -> house.nameLetter(3, index),
                'l', 'o', 'n', 'g', 'e', 'r');
        each(22, LODGER, (house, lodger) -> house.nameLetter(lodger, 0), 'q', 'w', 'a', 'l');
        each(22, "Returns the letter.", (house, index) -> house.nameLetter(2, index), 'a', 'b', 'c');
    }

    private static void floors() {
        each(10, FLOOR, AccentHouse::rentOf, 5, 10, 15, 20, 25);
        each(24, FLOOR, AccentHouse::lodgersOn, 2, 0, 2, 0, 0);
        each(25, "Returns a lodger of a floor.", (house, place) -> house.lodgerOn(2, place), 1, 3);
        each(25, "Returns the lodger.", (house, place) -> house.lodgerOn(0, place), 0, 2);
        Document.says(25, FLOOR);
        Check.equal("of floor 0", four().lodgerOn(0, 1), 2);
        Check.equal("of floor 2", four().lodgerOn(2, 1), 3);
        Document.says(26, FLOOR);
        Check.equal("of floor 0", four().averageVowel(0, 0), 4);
        Check.equal("of floor 2", four().averageVowel(2, 0), 6);
        each(58, FLOOR, (house, floor) -> house.writeFloor(floor) + " " + Check.wholeOutput(house),
                "5 q,abc", "0 ", "9 wx,longer", "0 ", "0 ");
    }

    private static void vowels() {
        Document.says(11, VOWEL);
        Bounds.each(() -> Check.with("house 5 6;landlady 3 1 4 0 5"), AccentHouse::landladyVowel, 3, 1, 4, 0, 5);
        each(17, VOWEL, (house, vowel) -> house.vowelOf(3, vowel), 5, 4, 4, 1, 0);
        each(26, VOWEL, (house, vowel) -> house.averageVowel(2, vowel), 6, 6, 4, 2, 2);
        each(51, VOWEL, (house, vowel) -> house.setLandladyVowel(vowel, 9) + " " + landlady(house),
                "4 94444", "4 49444", "4 44944", "4 44494", "4 44449");
    }

    private static String landlady(AccentHouse house) {
        StringBuilder digits = new StringBuilder();
        for (int vowel = 0; vowel < 5; vowel++) {
            digits.append(house.landladyVowel(vowel));
        }
        return digits.toString();
    }

    private static void accents() {
        each(27, LODGER, AccentHouse::distanceToLandlady, 0, 9, 0, 8);
        each(28, "- `first`: a lodger", (house, first) -> house.distance(first, 3), 8, 15, 8, 0);
        each(29, "- `first`: a lodger", (house, first) -> house.rhymes(first, 0), true, false, true, false);
        each(30, LODGER, AccentHouse::rhymesWithLandlady, true, false, true, false);
        each(31, LODGER, AccentHouse::rhymeCount, 1, 0, 1, 0);
        each(32, LODGER, AccentHouse::closestTo, 2, 0, 0, 0);
        each(33, LODGER, AccentHouse::lessonVowel, NONE, 1, NONE, 4);
        each(34, LODGER, AccentHouse::slipVowel, NONE, 1, NONE, 1);
        each(35, LODGER, AccentHouse::mustGo, false, true, false, false);
    }

    private static void forecasts() {
        each(38, LODGER, (house, lodger) -> house.balanceAfter(lodger, 1), 0, -60, 85, 20);
        each(39, LODGER, (house, lodger) -> house.distanceAfter(lodger, 1), 0, 8, 0, 8);
        each(40, LODGER, AccentHouse::daysToEviction, NONE, 2, NONE, 9);
        // With 60 wx takes a lesson tomorrow, and no more; two dinners do the rest.
        each(41, LODGER, AccentHouse::paymentToStay, 0, 60, 0, 0);
    }

    private static void accounts() {
        Document.says(42, "Returns the sum.");
        Check.equal("of four first payments", four().totalPaid(), 30 + 0 + 100 + 50);
        Document.says(43, "Returns the sum.");
        Check.equal("of the rents of four", four().totalCharged(), 5 * 5 + 3 * 15 + 2 * 5 + 15);
    }

    private static void changes() {
        each(48, LODGER, (house, lodger) -> house.moveOut(lodger) + " " + house.settled(), "5 5", "-45 -45", "90 90", "35 35");
        each(49, LODGER, (house, lodger) -> house.moveTo(lodger, 4) + " " + house.floorOf(lodger), "0 4", "2 4", "0 4", "2 4");
        each(50, LODGER, (house, lodger) -> house.pay(lodger, 1) + " " + house.balanceOf(lodger),
                "6 6", "-44 -44", "91 91", "36 36");
    }

    private static void output() {
        each(57, LODGER, (house, lodger) -> house.writeLodger(lodger) + " " + Check.wholeOutput(house),
                "9 q 44444 5", "12 wx 89444 -45", "12 abc 44444 90", "15 longer 54410 35");
        Document.says(59, "Returns a character of the output buffer.");
        AccentHouse house = four();
        house.writeFloor(0);
        Check.equal("of a floor", house.outputCharacter(1), ',');
        house.writeLodger(1);
        Check.equal("of a lodger", house.outputCharacter(1), 'x');
        Document.says(59, "Returns the character.");
        String due = "wx 89444 -45";
        for (int index = 0; index < due.length(); index++) {
            Check.equal("at " + index, house.outputCharacter(index), due.charAt(index));
        }
    }
}
