/** The boundary cases of what the house answers: promises 1, 6 to 37, 42 to 45 and 57 to 59. */
final class AnswerBounds {
    private static final String NO_LODGER = "Throws `IndexOutOfBoundsException` if there is no such lodger";
    private static final String NO_FLOOR = "Throws `IndexOutOfBoundsException` if floor is not 0 to 4";
    private static final String NO_VOWEL = "Throws `IndexOutOfBoundsException` if vowel is not 0 to 4";

    private AnswerBounds() {
    }

    static void run() {
        newObject();
        day();
        lodgerCount();
        rentAndTolerance();
        landladyVowel();
        daysToInspection();
        evictions();
        undoCount();
        floorAndBalance();
        vowelOf();
        lessonsOf();
        slipsOf();
        daysStayed();
        names();
        findByName();
        lodgersOn();
        lodgerOn();
        averageVowel();
        distances();
        rhymes();
        rhymeCount();
        closestTo();
        lessonVowel();
        slipVowel();
        mustGo();
        meanDistance();
        rhymingShare();
        totalPaid();
        totalCharged();
        settled();
        ledgerDifference();
        writeLodger();
        writeFloor();
        outputCharacter();
    }

    private static void newObject() {
        Document.says(1, "Creates the simulator in the state that the class comment describes.");
        AccentHouse house = new AccentHouse();
        Check.equal("all of it", Check.everything(house), "day 1 rent 5 tolerance 6 landlady 44444 evictions 0"
                + " paid 63 charged 30 settled 0"
                + "; ann floor 0 balance 15 accent 34445 lessons 1 slips 1 stayed 1"
                + "; bob floor 0 balance -2 accent 14444 lessons 0 slips 1 stayed 1"
                + "; cid floor 1 balance -10 accent 89004 lessons 0 slips 1 stayed 1"
                + "; dot floor 1 balance 30 accent 88004 lessons 1 slips 1 stayed 1"
                + "; undoCount 0 error 0 at -1 found -1 output ");
        Check.refused("nothing is to be undone", () -> house.undo());
        Check.refused("nothing is saved in slot 0", () -> house.restore(0));
        Check.refused("nothing is saved in slot 1", () -> house.restore(1));
    }

    private static void day() {
        Document.says(6, "Returns the day counter.");
        AccentHouse house = Check.withLines(";days 100;days 100;days 1");
        Check.equal("days of the text", house.day(), 201);
        house.advance(1);
        Check.equal("a day more", house.day(), 202);

        Document.says(6, "Returns the number of days that have passed, 0 after loading a text without days.");
        Check.equal("a text without days", Check.load(house, Check.HEADER) + house.day(), 0);
        Check.equal("a text with a day", Check.withLines(";days 1").day(), 1);
        AccentHouse last = Check.withLines("");
        for (int i = 0; i < 100; i++) {
            last.advance(i < 99 ? 100 : 99);
        }
        Check.equal("the last day", last.day(), 9999);
    }

    private static void lodgerCount() {
        Document.says(7, "Returns 0 to 12.");
        for (int count = 0; count <= 12; count++) {
            Check.equal("a crowd", Bounds.crowd(count).lodgerCount(), count);
        }
        AccentHouse house = Bounds.crowd(12);
        house.advance(7);
        Check.equal("with the landlady's accent all stay", house.lodgerCount(), 12);
        house.setTolerance(0);
        house.setLandladyVowel(0, 9);
        house.setLandladyVowel(1, 9);
        house.advance(7);
        Check.equal("all are evicted", house.lodgerCount(), 0);
    }

    private static void rentAndTolerance() {
        Document.says(8, "Returns 0 to 50.");
        Check.equal("0", Check.with("house 0 45;landlady 4 4 4 4 4").baseRent(), 0);
        Check.equal("50", Check.with("house 50 0;landlady 4 4 4 4 4").baseRent(), 50);

        Document.says(9, "Returns 0 to 45.");
        Check.equal("0", Check.with("house 50 0;landlady 4 4 4 4 4").tolerance(), 0);
        Check.equal("45", Check.with("house 0 45;landlady 4 4 4 4 4").tolerance(), 45);

        Document.says(10, "Returns the daily rent of a floor.");
        AccentHouse charged = Check.with("house 3 6;landlady 4 4 4 4 4;lodger a 4 99 4 4 4 4 4;days 1");
        Check.equal("what a day costs", charged.rentOf(4), 99 - charged.balanceOf(0));

        Document.says(10, "Returns the base rent plus 5 times the floor.");
        AccentHouse house = Check.with("house 0 45;landlady 4 4 4 4 4");
        for (int floor = 0; floor < 5; floor++) {
            house.setBaseRent(0);
            Check.equal("floor " + floor + ", no base rent", house.rentOf(floor), 5 * floor);
            house.setBaseRent(50);
            Check.equal("floor " + floor + ", the highest", house.rentOf(floor), 50 + 5 * floor);
        }

        Document.says(10, NO_FLOOR);
        Bounds.floors(AccentHouse::rentOf);
    }

    private static void landladyVowel() {
        Document.says(11, "Returns the position, 0 to 9.");
        AccentHouse house = Check.with("house 5 6;landlady 0 9 0 9 0");
        for (int vowel = 0; vowel < 5; vowel++) {
            Check.equal("the position of " + vowel, house.landladyVowel(vowel), vowel % 2 == 0 ? 0 : 9);
        }

        Document.says(11, NO_VOWEL);
        Bounds.vowels(AccentHouse::landladyVowel);
    }

    private static void daysToInspection() {
        Document.says(12, "Returns the number of days until the next inspection.");
        AccentHouse evicting = Check.withLines(";days 3;lodger a 0 0 9 9 9 9 9");
        int days = evicting.daysToInspection();
        Check.equal("nobody is evicted a day earlier", evicting.advance(days - 1), 0);
        Check.equal("on that day one is", evicting.advance(1), 1);

        Document.says(12, "Returns 1 to 7.");
        AccentHouse house = Check.withLines("");
        for (int day = 0; day <= 28; day++) {
            Check.equal("on day " + day, house.daysToInspection(), 7 - day % 7);
            house.advance(1);
        }
    }

    private static void evictions() {
        Document.says(13, "Returns the number of lodgers who were evicted since the last successful load(), including the"
                + " days of the text.");
        AccentHouse house = Check.withLines(";lodger a 0 0 9 9 9 9 9;lodger b 1 0 0 0 0 0 0;days 6");
        Check.equal("none before the inspection", house.evictions(), 0);
        house.advance(1);
        Check.equal("two by advance", house.evictions(), 2);
        Check.illegal("a load with an error", () -> Check.load(house, "x"));
        Check.equal("a load with an error begins nothing", house.evictions(), 2);
        Check.load(house, Check.HEADER + ";lodger a 0 0 9 9 9 9 9;days 6");
        Check.equal("a load begins anew", house.evictions(), 0);
        Check.load(house, Check.HEADER + ";lodger a 0 0 9 9 9 9 9;days 7");
        Check.equal("a day of the text", house.evictions(), 1);
        Check.load(house, Check.HEADER + ";lodger a 0 0 9 9 9 9 9;days 7");
        Check.equal("a second text begins anew", house.evictions(), 1);

        Document.says(13, "Returns the number of evictions.");
        house.moveIn(0, 0, 0);
        house.moveOut(0);
        Check.equal("moving out is none", house.evictions(), 1);
        house.moveIn(0, 0, 0);
        house.advance(7);
        Check.equal("they are summed", house.evictions(), 2);
    }

    private static void undoCount() {
        Document.says(14, "Returns the number of changes that can be undone.");
        AccentHouse house = new AccentHouse();
        house.pay(0, 1);
        house.pay(0, 1);
        house.undo();
        Check.equal("a change undone does not count", house.undoCount(), 1);
        house.undo();
        Check.equal("none", house.undoCount(), 0);
        Check.refused("so there is none to undo", () -> house.undo());

        Document.says(14, "Returns 0 to 10.");
        for (int changes = 0; changes <= 12; changes++) {
            Check.equal("after " + changes, house.undoCount(), Math.min(changes, 10));
            house.setTolerance(changes);
        }
    }

    private static void floorAndBalance() {
        Document.says(15, NO_LODGER);
        Bounds.lodgers(AccentHouse::floorOf);

        Document.says(16, "Returns the balance, negative if the lodger owes rent.");
        AccentHouse house = Check.withLines(";lodger a 0 6 4 4 4 4 4;lodger b 0 5 4 4 4 4 4;lodger c 0 4 4 4 4 4 4;days 1");
        Check.equal("more than the rent", house.balanceOf(0), 1);
        Check.equal("just the rent", house.balanceOf(1), 0);
        Check.equal("less than the rent", house.balanceOf(2), -1);

        Document.says(16, NO_LODGER);
        Bounds.lodgers(AccentHouse::balanceOf);
    }

    private static void vowelOf() {
        Document.says(17, "Returns the position, 0 to 9.");
        AccentHouse house = Check.withLines(";lodger a 0 0 9 0 9 0 9;lodger b 0 0 0 9 0 9 0");
        for (int vowel = 0; vowel < 5; vowel++) {
            Check.equal("a's position of " + vowel, house.vowelOf(0, vowel), vowel % 2 == 0 ? 9 : 0);
            Check.equal("b's position of " + vowel, house.vowelOf(1, vowel), vowel % 2 == 0 ? 0 : 9);
        }

        Document.says(17, "Throws `IndexOutOfBoundsException` if there is no such lodger, or vowel is not 0 to 4");
        Bounds.lodgers((crowd, lodger) -> crowd.vowelOf(lodger, 4));
        Bounds.vowels((first, vowel) -> first.vowelOf(3, vowel));
        Check.outside("neither one", () -> house.vowelOf(2, 5));
    }

    private static void lessonsOf() {
        Document.says(18, "Returns how many lessons a lodger has taken.");
        AccentHouse house = Check.withLines(";lodger a 0 15 4 4 4 0 0;lodger b 1 0 0 0 0 0 0;lodger c 2 999 4 4 4 4 3");
        int[][] due = {{0, 0, 0}, {1, 0, 1}, {2, 0, 1}, {3, 0, 1}, {3, 0, 1}};
        for (int day = 0; day < due.length; day++) {
            for (int lodger = 0; lodger < 3; lodger++) {
                Check.equal("of " + lodger + " on day " + day, house.lessonsOf(lodger), due[day][lodger]);
            }
            house.advance(1);
        }

        Document.says(18, "Returns the number of lessons.");
        house.moveOut(0);
        Check.equal("the number goes with the lodger", house.lessonsOf(1), 1);
        house.moveIn(0, 0, 0);
        Check.equal("a new lodger has taken none", house.lessonsOf(2), 0);

        Document.says(18, NO_LODGER);
        Bounds.lodgers(AccentHouse::lessonsOf);
    }

    private static void slipsOf() {
        Document.says(19, "Returns how often a lodger has slipped.");
        AccentHouse house = Check.withLines(";lodger a 0 0 4 4 4 4 0;lodger b 0 0 4 4 4 4 2;lodger c 1 0 0 0 0 0 0");
        house.advance(1);
        Check.equal("both slip to the average", house.slipsOf(0) + " " + house.slipsOf(1), "1 1");
        house.advance(1);
        Check.equal("then both equal it", house.slipsOf(0) + " " + house.slipsOf(1), "1 1");
        Check.equal("one alone never slips", house.slipsOf(2), 0);

        Document.says(19, "Returns the number of slips.");
        house.moveIn(1, 0, 9);
        house.advance(2);
        Check.equal("two slips", house.slipsOf(2) + " " + house.slipsOf(3), "2 2");
        house.moveOut(0);
        Check.equal("the number goes with the lodger", house.slipsOf(0) + " " + house.slipsOf(1), "1 2");
        house.moveIn(0, 0, 0);
        Check.equal("a new lodger has not slipped", house.slipsOf(3), 0);

        Document.says(19, NO_LODGER);
        Bounds.lodgers(AccentHouse::slipsOf);
    }

    private static void daysStayed() {
        Document.says(20, "Returns how many days a lodger has lived in the house.");
        AccentHouse house = Check.withLines(";lodger a 0 0 4 4 4 4 4;days 100;lodger b 0 0 4 4 4 4 4;days 1");
        Check.equal("since day 0", house.daysStayed(0), 101);
        Check.equal("since day 100", house.daysStayed(1), 1);

        Document.says(20, "Returns the day counter minus its value when the lodger moved in.");
        house.moveIn(0, 0, 44444);
        Check.equal("0 on the day itself", house.daysStayed(2), 0);
        house.moveTo(0, 3);
        Check.equal("moving to a floor is no moving in", house.daysStayed(0), 101);
        house.advance(1);
        Check.equal("a day later", house.daysStayed(2), 1);
        house.moveOut(0);
        Check.equal("the days go with the lodger", house.daysStayed(0), 2);

        Document.says(20, NO_LODGER);
        Bounds.lodgers(AccentHouse::daysStayed);
    }

    private static void names() {
        AccentHouse house = Check.withLines(";lodger q 0 0 4 4 4 4 4;lodger longer 0 0 4 4 4 4 4;lodger az 0 0 4 4 4 4 4");
        Document.says(21, "Returns 1 to 6.");
        Check.equal("one letter", house.nameLength(0), 1);
        Check.equal("six letters", house.nameLength(1), 6);
        Check.equal("two letters", house.nameLength(2), 2);
        Check.equal("moveIn gives one letter", house.nameLength(house.moveIn(0, 0, 0)), 1);

        Document.says(21, NO_LODGER);
        Bounds.lodgers(AccentHouse::nameLength);

        Document.says(22, "- `index`: the index of the letter, from 0");
        Check.equal("the only letter", house.nameLetter(0, 0), 'q');
        Check.equal("the first of six", house.nameLetter(1, 0), 'l');
        Check.equal("the last of six", house.nameLetter(1, 5), 'r');
        Check.equal("a", house.nameLetter(2, 0), 'a');
        Check.equal("z", house.nameLetter(2, 1), 'z');

        Document.says(22, "Throws `IndexOutOfBoundsException` if there is no such lodger or letter");
        Bounds.lodgers((crowd, lodger) -> crowd.nameLetter(lodger, 0));
        int[] lengths = {1, 6, 2};
        for (int i = 0; i < lengths.length; i++) {
            int lodger = i;
            Bounds.between(IndexOutOfBoundsException.class, () -> Check.withLines(";lodger q 0 0 4 4 4 4 4"
                    + ";lodger longer 0 0 4 4 4 4 4;lodger az 0 0 4 4 4 4 4"), 0, lengths[i] - 1,
                    (named, index) -> named.nameLetter(lodger, index));
        }
    }

    private static void finds(String input, int due) {
        AccentHouse house = new AccentHouse();
        Check.feed(house, input);
        Check.equal("with '" + input + "' in the buffer", house.findByName(), due);
    }

    private static void findByName() {
        Document.says(23, "Finds the lodger whose name equals the content of the input buffer, without leading and trailing spaces.");
        finds("ann", 0);
        finds(" ".repeat(17) + "dot", 3);
        finds(" ".repeat(8) + "cid" + " ".repeat(9), 2);
        finds(" ".repeat(597) + "bob", 1);
        finds("bob" + " ".repeat(597), 1);
        AccentHouse longest = Check.withLines(";lodger longer 0 0 4 4 4 4 4");
        Check.feed(longest, "  longer");
        Check.equal("a name of six letters", longest.findByName(), 0);

        Document.says(23, "The buffer stays as it is.");
        AccentHouse kept = new AccentHouse();
        Check.feed(kept, "  cid");
        Check.equal("once", kept.findByName(), 2);
        Check.equal("once more", kept.findByName(), 2);
        Check.equal("the length", kept.append(0x20202020, 0x20202020, 0x20202020, 0x20202020, 0x20202020), 40);
        Check.equal("after more spaces", kept.findByName(), 2);
        Check.illegal("the spaces are still there", () -> kept.load(40));
        Check.equal("where the name stands", kept.errorOffset(), 2);

        Document.says(23, "Returns the lodger; NONE if no lodger has this name.");
        Check.equal("an empty buffer", new AccentHouse().findByName(), AccentHouse.NONE);
        finds(" ".repeat(20), AccentHouse.NONE);
        finds(" ".repeat(600), AccentHouse.NONE);
        finds("an", AccentHouse.NONE);
        finds("anna", AccentHouse.NONE);
        finds("nn", AccentHouse.NONE);
        finds("ann bob", AccentHouse.NONE);
        finds("a nn", AccentHouse.NONE);
        finds("Ann", AccentHouse.NONE);
        finds("\nann", AccentHouse.NONE);
        finds("ann\n", AccentHouse.NONE);
        finds("\tann", AccentHouse.NONE);
        finds("ann\0", AccentHouse.NONE);
        finds("eve", AccentHouse.NONE);
        AccentHouse left = new AccentHouse();
        left.moveOut(3);
        Check.feed(left, "dot");
        Check.equal("one who left", left.findByName(), AccentHouse.NONE);
        AccentHouse empty = Check.withLines("");
        Check.feed(empty, "ann");
        Check.equal("in an empty house", empty.findByName(), AccentHouse.NONE);
    }

    private static AccentHouse floorsOfAll() {
        return Check.withLines(";lodger a 2 0 0 0 0 0 0;lodger b 4 0 0 0 0 0 0;lodger c 2 0 0 0 0 0 0"
                + ";lodger d 2 0 0 0 0 0 0;lodger e 0 0 0 0 0 0 0;lodger f 2 0 0 0 0 0 0");
    }

    private static void lodgersOn() {
        Document.says(24, "Returns the number of lodgers on a floor.");
        AccentHouse house = floorsOfAll();
        house.moveTo(0, 4);
        Check.equal("the floor that one left", house.lodgersOn(2), 3);
        Check.equal("the floor that one came to", house.lodgersOn(4), 2);
        house.moveOut(5);
        Check.equal("one moved out", house.lodgersOn(2), 2);

        Document.says(24, "Returns 0 to 4.");
        AccentHouse all = floorsOfAll();
        int[] due = {1, 0, 4, 0, 1};
        for (int floor = 0; floor < 5; floor++) {
            Check.equal("floor " + floor, all.lodgersOn(floor), due[floor]);
            Check.equal("floor " + floor + " of an empty house", Check.withLines("").lodgersOn(floor), 0);
        }

        Document.says(24, NO_FLOOR);
        Bounds.floors(AccentHouse::lodgersOn);
    }

    private static void lodgerOn() {
        Document.says(25, "- `place`: 0 for the lodger of this floor with the smallest number, 1 for the next one, and so on");
        AccentHouse house = floorsOfAll();
        int[] due = {0, 2, 3, 5};
        for (int place = 0; place < 4; place++) {
            Check.equal("place " + place + " of a full floor", house.lodgerOn(2, place), due[place]);
        }
        Check.equal("the only place", house.lodgerOn(4, 0), 1);
        house.moveTo(5, 0);
        house.moveTo(4, 1);
        house.moveTo(4, 0);
        Check.equal("the smaller number comes first", house.lodgerOn(0, 0), 4);
        Check.equal("then the greater one", house.lodgerOn(0, 1), 5);

        Document.says(25, "Throws `IndexOutOfBoundsException` if floor is not 0 to 4, or the floor has no such place");
        Bounds.floors((all, floor) -> all.lodgerOn(floor, 0));
        int[] lodgers = {1, 0, 4, 0, 1};
        for (int i = 0; i < 5; i++) {
            int floor = i;
            Bounds.between(IndexOutOfBoundsException.class, AnswerBounds::floorsOfAll, 0, lodgers[i] - 1,
                    (all, place) -> all.lodgerOn(floor, place));
        }
        Check.outside("neither one", () -> house.lodgerOn(5, 9));
    }

    private static void averageVowel() {
        Document.says(26, "Returns the average position of a vowel on a floor.");
        AccentHouse house = Check.withLines(";lodger a 0 0 0 9 4 0 1;lodger b 0 0 0 9 5 1 0;lodger c 0 0 0 9 5 1 0"
                + ";lodger d 0 0 0 9 5 1 0;lodger e 4 0 9 0 9 0 9");
        int[] due = {0, 9, 4, 0, 0};
        for (int vowel = 0; vowel < 5; vowel++) {
            Check.equal("of four lodgers, vowel " + vowel, house.averageVowel(0, vowel), due[vowel]);
        }

        Document.says(26, "Returns the average of the floor for this vowel.");
        for (int vowel = 0; vowel < 5; vowel++) {
            Check.equal("of one lodger, vowel " + vowel, house.averageVowel(4, vowel), house.vowelOf(4, vowel));
        }

        Document.says(26, "Throws `IndexOutOfBoundsException` if floor or vowel is not 0 to 4");
        Bounds.floors((all, floor) -> all.averageVowel(floor, 4));
        Bounds.vowels((all, vowel) -> all.averageVowel(0, vowel));
        Check.outside("neither one", () -> house.averageVowel(-1, 5));
        Check.outside("no vowel, and no lodger on the floor", () -> house.averageVowel(1, 5));

        Document.says(26, "Throws `IllegalStateException` if no lodger lives on the floor");
        Check.refused("a floor that was always empty", () -> house.averageVowel(1, 0));
        house.moveOut(4);
        Check.refused("a floor that the last one left", () -> house.averageVowel(4, 4));
        for (int floor = 0; floor < 5; floor++) {
            int asked = floor;
            Check.refused("an empty house", () -> Check.withLines("").averageVowel(asked, 0));
        }
    }

    private static void distances() {
        AccentHouse house = Check.with("house 5 6;landlady 0 0 0 0 0;lodger a 0 0 9 9 9 9 9;lodger b 0 0 0 0 0 0 0"
                + ";lodger c 0 0 0 0 0 0 1");
        Document.says(27, "Returns the distance of a lodger's accent and the landlady's accent.");
        Check.equal("one vowel off by 1", house.distanceToLandlady(2), 1);
        house.setLandladyVowel(4, 9);
        Check.equal("the landlady above", house.distanceToLandlady(2), 8);
        house.undo();

        Document.says(27, "Returns the distance, 0 to 45.");
        Check.equal("the greatest", house.distanceToLandlady(0), 45);
        Check.equal("the least", house.distanceToLandlady(1), 0);

        Document.says(27, NO_LODGER);
        Bounds.lodgers(AccentHouse::distanceToLandlady);

        Document.says(28, "Returns the distance of two lodgers' accents.");
        Check.equal("of a and c", house.distance(0, 2), 44);
        Check.equal("of b and c", house.distance(1, 2), 1);

        Document.says(28, "- `second`: a lodger, possibly the same one");
        for (int lodger = 0; lodger < 3; lodger++) {
            Check.equal("to oneself", house.distance(lodger, lodger), 0);
        }

        Document.says(28, "Returns the distance, 0 to 45.");
        Check.equal("the greatest", house.distance(0, 1), 45);
        Check.equal("the greatest, the other way", house.distance(1, 0), 45);

        Document.says(28, "Throws `IndexOutOfBoundsException` if one of the lodgers does not exist");
        Bounds.lodgers((crowd, lodger) -> crowd.distance(lodger, 0));
        Bounds.lodgers((crowd, lodger) -> crowd.distance(0, lodger));
        Bounds.lodgers((crowd, lodger) -> crowd.distance(lodger, lodger));
    }

    private static AccentHouse rhyming() {
        return Check.withLines(";lodger a 0 0 4 4 4 4 4;lodger b 0 0 4 4 4 4 9;lodger c 1 0 5 4 4 4 9;lodger d 2 0 0 0 0 0 0");
    }

    private static void rhymes() {
        AccentHouse house = rhyming();
        Document.says(29, "Tells whether the accents of two lodgers rhyme.");
        Check.equal("a and b", house.rhymes(0, 1), true);
        Check.equal("b and a", house.rhymes(1, 0), true);
        Check.equal("c and d", house.rhymes(2, 3), false);

        Document.says(29, "- `second`: a lodger, possibly the same one");
        Check.equal("with oneself", house.rhymes(3, 3), true);

        Document.says(29, "Returns true if the accents differ in at most one vowel.");
        Check.equal("in one, by 5", house.rhymes(0, 1), true);
        Check.equal("in one, by 1", house.rhymes(1, 2), true);
        Check.equal("in two", house.rhymes(0, 2), false);

        Document.says(29, "Throws `IndexOutOfBoundsException` if one of the lodgers does not exist");
        Bounds.lodgers((crowd, lodger) -> crowd.rhymes(lodger, 0));
        Bounds.lodgers((crowd, lodger) -> crowd.rhymes(0, lodger));
        Bounds.lodgers((crowd, lodger) -> crowd.rhymes(lodger, lodger));

        Document.says(30, "Tells whether a lodger's accent and the landlady's accent rhyme.");
        Check.equal("with a change of hers", house.setLandladyVowel(4, 9) + " " + house.rhymesWithLandlady(2), "4 true");
        house.undo();

        Document.says(30, "Returns true if the accents differ in at most one vowel.");
        Check.equal("in none", house.rhymesWithLandlady(0), true);
        Check.equal("in one", house.rhymesWithLandlady(1), true);
        Check.equal("in two", house.rhymesWithLandlady(2), false);
        Check.equal("in five", house.rhymesWithLandlady(3), false);

        Document.says(30, NO_LODGER);
        Bounds.lodgers(AccentHouse::rhymesWithLandlady);
    }

    private static void rhymeCount() {
        Document.says(31, "Counts the other lodgers whose accents rhyme with a lodger's accent.");
        AccentHouse house = rhyming();
        int[] due = {1, 2, 1, 0};
        for (int lodger = 0; lodger < 4; lodger++) {
            Check.equal("of " + lodger, house.rhymeCount(lodger), due[lodger]);
        }

        Document.says(31, "Returns 0 to 11.");
        for (int count = 1; count <= 12; count++) {
            Check.equal("the first of " + count, Bounds.crowd(count).rhymeCount(0), count - 1);
            Check.equal("the last of " + count, Bounds.crowd(count).rhymeCount(count - 1), count - 1);
        }

        Document.says(31, NO_LODGER);
        Bounds.lodgers(AccentHouse::rhymeCount);
    }

    private static void closestTo() {
        Document.says(32, "Finds the other lodger whose accent has the smallest distance to a lodger's accent.");
        AccentHouse house = Check.withLines(";lodger a 0 0 0 0 0 0 0;lodger b 0 0 9 9 9 9 9;lodger c 1 0 9 9 9 9 8"
                + ";lodger d 1 0 0 0 0 0 2");
        int[] due = {3, 2, 1, 0};
        for (int lodger = 0; lodger < 4; lodger++) {
            Check.equal("to " + lodger, house.closestTo(lodger), due[lodger]);
        }

        Document.says(32, "Returns the other lodger, on a tie the one with the smallest number; NONE if there is no other lodger.");
        AccentHouse same = Bounds.crowd(12);
        Check.equal("a tie of all, for the first", same.closestTo(0), 1);
        Check.equal("a tie of all, for the second", same.closestTo(1), 0);
        Check.equal("a tie of all, for the last", same.closestTo(11), 0);
        AccentHouse tie = Check.withLines(";lodger a 0 0 9 9 9 9 9;lodger b 0 0 4 4 4 4 6;lodger c 0 0 4 4 4 4 4;lodger d 0 0 4 4 4 4 2");
        Check.equal("a tie of one above and one below", tie.closestTo(2), 1);
        AccentHouse far = Check.withLines(";lodger a 0 0 0 0 0 0 0;lodger b 0 0 9 9 9 9 9");
        Check.equal("the only other, at the greatest distance", far.closestTo(0), 1);
        far.moveOut(0);
        Check.equal("alone", far.closestTo(0), AccentHouse.NONE);

        Document.says(32, NO_LODGER);
        Bounds.lodgers(AccentHouse::closestTo);
    }

    private static void lessonVowel() {
        AccentHouse house = Check.withLines(";lodger a 0 0 4 4 4 4 4;lodger b 0 0 4 4 6 4 2;lodger c 1 999 3 3 3 3 9"
                + ";lodger d 1 0 4 4 4 4 5;lodger e 2 0 0 0 0 0 0;days 1");
        Document.says(33, "Returns the vowel that a lesson would train now, whether or not the lodger can pay.");
        Check.equal("of a debtor", house.lessonVowel(4), 0);
        Check.equal("of who can pay", house.lessonVowel(2), 4);

        Document.says(33, "Returns the vowel; NONE if the lodger has the accent of the landlady.");
        AccentHouse fresh = Check.withLines(";lodger a 0 0 4 4 4 4 4;lodger b 0 0 4 4 6 4 2;lodger c 0 0 4 4 4 4 5");
        Check.equal("her accent", fresh.lessonVowel(0), AccentHouse.NONE);
        Check.equal("the smallest of equals", fresh.lessonVowel(1), 2);
        Check.equal("off by 1", fresh.lessonVowel(2), 4);
        fresh.setLandladyVowel(4, 5);
        Check.equal("no longer her accent", fresh.lessonVowel(0), 4);
        Check.equal("her accent now", fresh.lessonVowel(2), AccentHouse.NONE);

        Document.says(33, NO_LODGER);
        Bounds.lodgers(AccentHouse::lessonVowel);
    }

    private static void slipVowel() {
        Document.says(34, "Returns the vowel in which a lodger would slip if dinner were served now, without rent and lessons.");
        AccentHouse house = Check.withLines(";lodger a 0 999 4 4 4 4 6;lodger b 0 999 4 4 4 8 4");
        // After the lessons it would be other vowels: the average of now is 4 4 4 6 5.
        Check.equal("of the first", house.slipVowel(0), 3);
        Check.equal("of the second", house.slipVowel(1), 3);
        Check.equal("nothing is served", house.slipsOf(0) + house.lessonsOf(0) + house.day(), 0);
        Check.equal("the accent is as before", Check.accent(house, 0), "44446");

        Document.says(34, "Returns the vowel; NONE if the lodger would not slip.");
        AccentHouse none = Check.withLines(";lodger a 0 0 9 9 9 9 9;lodger b 1 0 4 4 4 4 4;lodger c 1 0 4 4 4 4 4"
                + ";lodger d 2 0 4 4 4 4 4;lodger e 2 0 4 4 4 4 5");
        Check.equal("alone on the floor", none.slipVowel(0), AccentHouse.NONE);
        Check.equal("two alike", none.slipVowel(1), AccentHouse.NONE);
        Check.equal("the truncated average", none.slipVowel(3), AccentHouse.NONE);
        Check.equal("off the truncated average", none.slipVowel(4), 4);
        none.moveTo(0, 1);
        Check.equal("the smallest of equals", none.slipVowel(0), 0);
        none.moveOut(4);
        Check.equal("left alone", none.slipVowel(3), AccentHouse.NONE);

        Document.says(34, NO_LODGER);
        Bounds.lodgers(AccentHouse::slipVowel);
    }

    /** Whether a lodger must go who has a balance of so much, before any day. */
    private static boolean goes(int balance, String accent, int tolerance) {
        AccentHouse house = Check.with("house 1 0;landlady 4 4 4 4 4");
        house.moveIn(0, balance + 1, Integer.parseInt(accent));
        house.advance(1);
        Check.equal("the balance", house.balanceOf(0), balance);
        house.setTolerance(tolerance);
        return house.mustGo(0);
    }

    private static void mustGo() {
        Document.says(35, "Tells whether a lodger would have to go if the inspection were held now.");
        AccentHouse house = Check.withLines(";lodger a 0 0 9 9 9 9 9;lodger b 0 999 9 9 9 9 9;days 1");
        Check.equal("on a day without inspection", house.mustGo(0), true);
        Check.equal("who can pay", house.mustGo(1), false);
        house.pay(0, 5);
        Check.equal("behind the payment", house.mustGo(0), false);

        Document.says(35, "Returns true if the balance is negative, the distance to the landlady's accent is greater than"
                + " the tolerance, and the two accents do not rhyme.");
        Check.equal("a balance of -1, 5 beyond 4", goes(-1, "44427", 4), true);
        Check.equal("a balance of 0, 45 beyond 0", goes(0, "99999", 0), false);
        Check.equal("a balance of -1, 4 within 4", goes(-1, "44426", 4), false);
        Check.equal("a balance of -1, 5 in one vowel", goes(-1, "44449", 4), false);
        Check.equal("a balance of -1, 2 in two vowels beyond 1", goes(-1, "44455", 1), true);
        Check.equal("a balance of -1, the same accent", goes(-1, "44444", 0), false);

        Document.says(35, NO_LODGER);
        Bounds.lodgers(AccentHouse::mustGo);
    }

    private static void meanDistance() {
        Document.says(36, "Returns the mean distance of the lodgers' accents to the landlady's accent.");
        AccentHouse house = Check.with("house 5 6;landlady 0 0 0 0 0;lodger a 0 0 9 9 9 9 9");
        Check.equal("of one, the greatest", house.meanDistance(), 45.0);
        house.moveIn(0, 0, 0);
        Check.equal("of two", house.meanDistance(), 22.5);

        Document.says(36, "Returns the sum of the distances as a double, divided by the number of lodgers as a double;"
                + " 0.0 if the house is empty.");
        house.moveIn(0, 0, 0);
        house.moveOut(0);
        house.moveIn(0, 0, 1);
        Check.equal("a third", house.meanDistance(), 1.0 / 3.0);
        AccentHouse full = Bounds.crowd(12);
        full.setLandladyVowel(0, 9);
        full.moveOut(11);
        full.moveIn(3, 0, 44443);
        Check.equal("of twelve", full.meanDistance(), 61.0 / 12.0);
        Check.equal("all alike", Bounds.crowd(12).meanDistance(), 0.0);
        Check.equal("an empty house", Check.withLines("").meanDistance(), 0.0);
    }

    private static void rhymingShare() {
        Document.says(37, "Returns the share of the lodgers whose accents rhyme with the landlady's accent.");
        AccentHouse house = rhyming();
        Check.equal("two of four", house.rhymingShare(), 0.5f);

        Document.says(37, "Returns their number as a float, divided by the number of lodgers as a float; 0.0f if the house is empty.");
        house.moveOut(0);
        Check.equal("one of three", house.rhymingShare(), 1.0f / 3.0f);
        house.moveOut(0);
        Check.equal("none of two", house.rhymingShare(), 0.0f);
        Check.equal("all of twelve", Bounds.crowd(12).rhymingShare(), 1.0f);
        Check.equal("an empty house", Check.withLines("").rhymingShare(), 0.0f);
    }

    private static void totalPaid() {
        Document.says(42, "Returns the sum of all payments since the last successful load(), including first payments and the"
                + " payments of the text.");
        AccentHouse house = Check.withLines(";lodger a 0 20 4 4 4 4 4;pay a 3;lodger b 0 0 4 4 4 4 4;days 2");
        Check.equal("of the text", house.totalPaid(), 23);
        house.pay(1, 999);
        Check.equal("a payment", house.totalPaid(), 1022);
        house.moveIn(1, 100, 44444);
        Check.equal("a first payment", house.totalPaid(), 1122);
        house.moveOut(0);
        Check.equal("of one who left", house.totalPaid(), 1122);
        Check.illegal("a load with an error", () -> Check.load(house, Check.HEADER + ";lodger a 0 5 0 0 0 0 0;x"));
        Check.equal("after an error", house.totalPaid(), 1122);
        Check.load(house, Check.HEADER);
        Check.equal("after a load", house.totalPaid(), 0);
    }

    private static void totalCharged() {
        Document.says(43, "Returns the sum of the rents that were charged since the last successful load(), including the days"
                + " of the text.");
        AccentHouse house = Check.withLines(";lodger a 0 0 9 9 9 9 9;lodger b 4 0 4 4 4 4 4;days 7");
        Check.equal("of the text, with the eviction's day", house.totalCharged(), 7 * 30);
        house.advance(1);
        Check.equal("of those who stayed", house.totalCharged(), 7 * 30 + 25);
        house.moveOut(0);
        house.advance(100);
        Check.equal("of an empty house", house.totalCharged(), 7 * 30 + 25);
        Check.illegal("a load with an error", () -> Check.load(house, "x"));
        Check.equal("after an error", house.totalCharged(), 7 * 30 + 25);
        Check.load(house, Check.HEADER + ";lodger a 0 0 4 4 4 4 4");
        Check.equal("after a load", house.totalCharged(), 0);
    }

    private static void settled() {
        Document.says(44, "Returns the settled amount: the sum of the balances with which lodgers left since the last"
                + " successful load(), including the days of the text.");
        AccentHouse house = Check.withLines(";lodger a 0 1 9 9 9 9 9;days 7");
        Check.equal("of the text", house.settled(), -34);
        house.moveIn(0, 50, 44444);
        Check.equal("nobody left since", house.settled(), -34);
        house.moveOut(0);
        Check.equal("one moved out", house.settled(), 16);
        Check.illegal("a load with an error", () -> Check.load(house, "x"));
        Check.equal("after an error", house.settled(), 16);

        Document.says(44, "Returns the sum, possibly negative.");
        house.moveIn(4, 0, 0);
        house.advance(1);
        house.moveOut(0);
        Check.equal("negative", house.settled(), 16 - 25);
        Check.load(house, Check.HEADER);
        Check.equal("after a load", house.settled(), 0);
    }

    private static void ledgerDifference() {
        Document.says(45, "Checks the accounts.");
        AccentHouse house = new AccentHouse();
        Check.equal("of a new object", house.ledgerDifference(), 0);

        Document.says(45, "Returns the balances of all lodgers plus the settled amount, minus totalPaid(), plus"
                + " totalCharged(); always 0.");
        house.advance(6);
        Check.equal("after evictions", house.ledgerDifference(), 0);
        house.pay(1, 999);
        house.moveIn(2, 77, 0);
        Check.equal("after payments", house.ledgerDifference(), 0);
        house.moveOut(0);
        Check.equal("after moving out", house.ledgerDifference(), 0);
        house.undo();
        Check.equal("after undo", house.ledgerDifference(), 0);
        house.advance(100);
        Check.equal("after many days", house.ledgerDifference(), 0);
        Check.load(house, Check.HEADER + ";lodger a 0 1 9 9 9 9 9;days 7");
        Check.equal("after a load", house.ledgerDifference(), 0);
    }

    private static void writes(String accents, String due) {
        AccentHouse house = Check.withLines(accents);
        Check.equal("the length", house.writeLodger(0), due.length());
        Check.equal("the output", Check.wholeOutput(house), due);
    }

    private static void writeLodger() {
        Document.says(57, "Writes a lodger to the output buffer and replaces its content: the name, a space, the five positions"
                + " as digits, a space and the balance as a decimal number, with a minus sign if the balance is negative.");
        writes(";lodger a 0 0 0 0 0 0 0", "a 00000 0");
        writes(";lodger zzzzzz 0 999 9 9 9 9 9", "zzzzzz 99999 999");
        writes(";lodger b 0 4 4 4 4 4 4;days 1", "b 44444 -1");
        writes(";lodger b 0 5 4 4 4 4 4;days 1", "b 44444 0");
        writes(";lodger b 0 6 4 4 4 4 4;days 1", "b 44444 1");
        writes(";lodger b 4 0 4 4 4 4 4;days 100;days 100", "b 44444 -5000");
        AccentHouse shorter = Check.withLines(";lodger longer 0 999 4 4 4 4 4;lodger b 0 0 4 4 4 4 4");
        shorter.writeLodger(0);
        Check.equal("a shorter output replaces", shorter.writeLodger(1), 9);
        Check.equal("the whole output", Check.wholeOutput(shorter), "b 44444 0");

        Document.says(57, "Returns the length of the output.");
        int[] lengths = {"ann 34445 15".length(), "bob 14444 -2".length(), "cid 89004 -10".length(), "dot 88004 30".length()};
        AccentHouse first = new AccentHouse();
        for (int lodger = 0; lodger < 4; lodger++) {
            Check.equal("of " + lodger, first.writeLodger(lodger), lengths[lodger]);
        }

        Document.says(57, NO_LODGER);
        Bounds.lodgers(AccentHouse::writeLodger);
    }

    private static void writeFloor() {
        Document.says(58, "Writes a floor to the output buffer and replaces its content: the names of the lodgers of the floor"
                + " by ascending numbers, with a comma between two names.");
        AccentHouse house = Check.withLines(";lodger z 1 0 0 0 0 0 0;lodger y 0 0 0 0 0 0 0;lodger longer 0 0 0 0 0 0 0"
                + ";lodger x 0 0 0 0 0 0 0;lodger a 0 0 0 0 0 0 0");
        house.writeFloor(0);
        Check.equal("four names", Check.wholeOutput(house), "y,longer,x,a");
        house.writeFloor(1);
        Check.equal("one name, without a comma", Check.wholeOutput(house), "z");
        house.writeFloor(2);
        Check.equal("no name", Check.wholeOutput(house), "");
        house.moveTo(0, 2);
        house.moveTo(4, 2);
        house.writeFloor(2);
        Check.equal("two names", Check.wholeOutput(house), "z,a");
        house.writeLodger(0);
        house.writeFloor(1);
        Check.equal("an empty floor replaces too", Check.wholeOutput(house), "");

        Document.says(58, "Returns the length of the output.");
        Check.equal("of an empty floor", house.writeFloor(1), 0);
        Check.equal("of two names", house.writeFloor(2), 3);
        Check.equal("of three names", house.writeFloor(0), "y,longer,x".length());

        Document.says(58, NO_FLOOR);
        Bounds.floors(AccentHouse::writeFloor);
    }

    private static AccentHouse written() {
        AccentHouse house = new AccentHouse();
        house.writeLodger(2);
        house.writeLodger(0);
        return house;
    }

    private static void outputCharacter() {
        Document.says(59, "- `index`: the index, from 0");
        AccentHouse house = written();
        String due = "ann 34445 15";
        for (int index = 0; index < due.length(); index++) {
            Check.equal("character " + index, house.outputCharacter(index), due.charAt(index));
        }

        Document.says(59, "Throws `IndexOutOfBoundsException` if there is no such character");
        Bounds.between(IndexOutOfBoundsException.class, AnswerBounds::written, 0, due.length() - 1,
                AccentHouse::outputCharacter);
        Bounds.between(IndexOutOfBoundsException.class, AccentHouse::new, 0, -1, AccentHouse::outputCharacter);
        house.writeFloor(4);
        Check.outside("the output of an empty floor", () -> house.outputCharacter(0));
    }
}
