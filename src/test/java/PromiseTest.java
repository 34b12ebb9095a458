/** Promises 1 and 6 to 45 and 57 to 59: what the house answers; forecasts are tried further in ModelTest. */
public final class PromiseTest {
    private static final String FIRST = "house 5 6; landlady 4 4 4 4 4; lodger ann 0 20 4 4 4 4 6; "
            + "lodger bob 0 3 0 4 4 4 4; lodger cid 1 0 9 9 0 0 4; lodger dot 1 40 9 8 0 1 4; days 1";
    private static final int LOW = Integer.MIN_VALUE;
    private static final int HIGH = Integer.MAX_VALUE;

    public static void main(String[] args) {
        newObject();
        houseNumbers();
        inspectionDays();
        evictions();
        lodgerNumbers();
        names();
        findByName();
        floors();
        averages();
        distances();
        rhymes();
        closest();
        lessonVowels();
        slipVowels();
        mustGo();
        means();
        oneDay();
        lessonsBeforeDinner();
        forecasts();
        forecastLimits();
        payments();
        accounts();
        writeLodger();
        writeFloor();
        outputCharacter();
        Check.finish();
    }

    private static void newObject() {
        AccentHouse made = new AccentHouse();
        Check.equal("state of a new object", Check.state(made), "day 1 rent 5 tolerance 6 landlady 44444 evictions 0"
                + " paid 63 charged 30 settled 0"
                + "; ann floor 0 balance 15 accent 34445 lessons 1 slips 1 stayed 1"
                + "; bob floor 0 balance -2 accent 14444 lessons 0 slips 1 stayed 1"
                + "; cid floor 1 balance -10 accent 89004 lessons 0 slips 1 stayed 1"
                + "; dot floor 1 balance 30 accent 88004 lessons 1 slips 1 stayed 1");
        Check.equal("its text", Check.state(Check.with(FIRST)), Check.state(made));
        Check.equal("its undoCount", made.undoCount(), 0);
        Check.equal("its errorKind", made.errorKind(), 0);
        Check.equal("its errorOffset", made.errorOffset(), AccentHouse.NONE);
        Check.outside("its output", () -> made.outputCharacter(0));
        Check.outside("its input", () -> made.load(1));
        Check.equal("its input as a name", made.findByName(), -1);
        Check.refused("its slot 0", () -> made.restore(0));
        Check.refused("its slot 1", () -> made.restore(1));
        Check.refused("its undo", () -> made.undo());
        Check.equal("its first append", made.append(0, 0, 0, 0, 0), 20);
    }

    private static void houseNumbers() {
        AccentHouse high = Check.with("house 50 45;landlady 0 9 1 8 2;days 100;days 23");
        Check.equal("day", high.day(), 123);
        Check.equal("lodgerCount of an empty house", high.lodgerCount(), 0);
        Check.equal("baseRent", high.baseRent(), 50);
        Check.equal("tolerance", high.tolerance(), 45);
        for (int floor = 0; floor < 5; floor++) {
            Check.equal("rentOf " + floor, high.rentOf(floor), 50 + 5 * floor);
        }
        int[] landlady = {0, 9, 1, 8, 2};
        for (int vowel = 0; vowel < 5; vowel++) {
            Check.equal("landladyVowel " + vowel, high.landladyVowel(vowel), landlady[vowel]);
        }
        for (int wrong : new int[] {-1, 5, LOW, HIGH}) {
            Check.outside("rentOf " + wrong, () -> high.rentOf(wrong));
            Check.outside("landladyVowel " + wrong, () -> high.landladyVowel(wrong));
        }
        AccentHouse low = Check.with("house 0 0;landlady 0 0 0 0 0");
        Check.equal("day without days", low.day(), 0);
        Check.equal("least baseRent", low.baseRent(), 0);
        Check.equal("least tolerance", low.tolerance(), 0);
        Check.equal("rentOf 0 without base rent", low.rentOf(0), 0);
        Check.equal("rentOf 4 without base rent", low.rentOf(4), 20);
    }

    private static void inspectionDays() {
        AccentHouse house = Check.withLines("");
        int[] due = {7, 6, 5, 4, 3, 2, 1, 7, 6};
        for (int day = 0; day < due.length; day++) {
            Check.equal("daysToInspection on day " + day, house.daysToInspection(), due[day]);
            house.advance(1);
        }
    }

    private static void evictions() {
        AccentHouse house = Check.withLines(";lodger ann 0 0 9 9 9 9 9;lodger bob 1 0 9 9 9 9 9;days 6");
        Check.equal("evictions before the inspection", house.evictions(), 0);
        Check.equal("evicted by advance", house.advance(1), 2);
        Check.equal("evictions by advance", house.evictions(), 2);
        Check.equal("nobody is left", house.lodgerCount(), 0);
        Check.equal("settled by evictions", house.settled(), -35 - 70);
        house.undo();
        Check.equal("evictions undone", house.evictions(), 0);
        AccentHouse text = Check.withLines(";lodger ann 0 0 9 9 9 9 9;lodger bob 1 999 4 4 4 4 4"
                + ";lodger cid 2 0 0 0 0 0 0;days 8");
        Check.equal("evictions in the text", text.evictions(), 2);
        Check.equal("who stays after the text", Check.name(text, 0), "bob");
        text.moveOut(0);
        Check.equal("moving out is no eviction", text.evictions(), 2);
        Check.load(text, Check.HEADER);
        Check.equal("evictions after a load", text.evictions(), 0);
    }

    private static void lodgerNumbers() {
        AccentHouse house = Check.withLines(";lodger ann 0 20 4 4 4 4 6;days 3;lodger bob 3 999 0 1 2 3 9"
                + ";lodger cid 4 0 9 8 7 6 5;days 2");
        Check.equal("lodgerCount", house.lodgerCount(), 3);
        Check.equal("floorOf", house.floorOf(1), 3);
        Check.equal("floorOf the highest", house.floorOf(2), 4);
        Check.equal("balanceOf", house.balanceOf(1), 999 - 2 * 20);
        Check.equal("balanceOf, in debt", house.balanceOf(2), -50);
        Check.equal("balanceOf, the fifth rent was too much", house.balanceOf(0), -5);
        Check.equal("accent of ann", Check.accent(house, 0), "44444");
        Check.equal("accent of bob", Check.accent(house, 1), "11238");
        Check.equal("accent of cid, who never paid", Check.accent(house, 2), "98765");
        Check.equal("lessonsOf, none with the landlady's accent", house.lessonsOf(0), 2);
        Check.equal("lessonsOf", house.lessonsOf(1), 2);
        Check.equal("lessonsOf a debtor", house.lessonsOf(2), 0);
        Check.equal("slipsOf a lodger alone", house.slipsOf(0), 0);
        Check.equal("daysStayed from the start", house.daysStayed(0), 5);
        Check.equal("daysStayed from day 3", house.daysStayed(1), 2);
        house.moveIn(0, 0, 0);
        Check.equal("daysStayed of a new one", house.daysStayed(3), 0);
        for (int wrong : new int[] {-1, 4, 12, LOW, HIGH}) {
            rejectLodger(house, wrong);
        }
        for (int wrong : new int[] {-1, 5, LOW, HIGH}) {
            Check.outside("vowelOf vowel " + wrong, () -> house.vowelOf(0, wrong));
        }
    }

    private static void rejectLodger(AccentHouse house, int wrong) {
        Check.outside("floorOf " + wrong, () -> house.floorOf(wrong));
        Check.outside("balanceOf " + wrong, () -> house.balanceOf(wrong));
        Check.outside("vowelOf " + wrong, () -> house.vowelOf(wrong, 0));
        Check.outside("lessonsOf " + wrong, () -> house.lessonsOf(wrong));
        Check.outside("slipsOf " + wrong, () -> house.slipsOf(wrong));
        Check.outside("daysStayed " + wrong, () -> house.daysStayed(wrong));
        Check.outside("nameLength " + wrong, () -> house.nameLength(wrong));
        Check.outside("nameLetter " + wrong, () -> house.nameLetter(wrong, 0));
        Check.outside("distanceToLandlady " + wrong, () -> house.distanceToLandlady(wrong));
        Check.outside("distance from " + wrong, () -> house.distance(wrong, 0));
        Check.outside("distance to " + wrong, () -> house.distance(0, wrong));
        Check.outside("rhymes of " + wrong, () -> house.rhymes(wrong, 0));
        Check.outside("rhymes with " + wrong, () -> house.rhymes(0, wrong));
        Check.outside("rhymesWithLandlady " + wrong, () -> house.rhymesWithLandlady(wrong));
        Check.outside("rhymeCount " + wrong, () -> house.rhymeCount(wrong));
        Check.outside("closestTo " + wrong, () -> house.closestTo(wrong));
        Check.outside("lessonVowel " + wrong, () -> house.lessonVowel(wrong));
        Check.outside("slipVowel " + wrong, () -> house.slipVowel(wrong));
        Check.outside("mustGo " + wrong, () -> house.mustGo(wrong));
        Check.outside("balanceAfter of " + wrong, () -> house.balanceAfter(wrong, 101));
        Check.outside("distanceAfter of " + wrong, () -> house.distanceAfter(wrong, 101));
        Check.outside("daysToEviction of " + wrong, () -> house.daysToEviction(wrong));
        Check.outside("paymentToStay of " + wrong, () -> house.paymentToStay(wrong));
        Check.outside("writeLodger of " + wrong, () -> house.writeLodger(wrong));
    }

    private static void names() {
        AccentHouse house = Check.withLines(";lodger a 0 0 0 0 0 0 0;lodger lodger 0 0 0 0 0 0 0;lodger xyz 0 0 0 0 0 0 0");
        Check.equal("shortest nameLength", house.nameLength(0), 1);
        Check.equal("longest nameLength", house.nameLength(1), 6);
        Check.equal("nameLetter of one letter", house.nameLetter(0, 0), 'a');
        Check.equal("a keyword as a name", Check.name(house, 1), "lodger");
        Check.equal("last nameLetter", house.nameLetter(2, 2), 'z');
        for (int wrong : new int[] {-1, 3, LOW, HIGH}) {
            Check.outside("nameLetter " + wrong, () -> house.nameLetter(2, wrong));
        }
        Check.outside("nameLetter behind one letter", () -> house.nameLetter(0, 1));
        Check.outside("nameLetter behind six letters", () -> house.nameLetter(1, 6));
    }

    private static void findByName() {
        search("ann", 0);
        search("  dot", 3);
        search("bob                 ", 1);
        search("          cid       ", 2);
        search("                    ", -1);
        search("an", -1);
        search("anna", -1);
        search("a nn", -1);
        search("ann bob", -1);
        search("\nann", -1);
        search("ann\n", -1);
        search("Ann", -1);
        search("\u00e1nn", -1);
        search("annannannannannannannannannann", -1);
        search("                                    bob", 1);
        search(" ".repeat(600), -1);
        search(" ".repeat(597) + "bob", 1);
        AccentHouse house = new AccentHouse();
        Check.equal("findByName of an empty buffer", house.findByName(), -1);
        Check.feed(house, "cid");
        house.findByName();
        Check.equal("findByName leaves the buffer", house.findByName(), 2);
        Check.equal("length after findByName", house.append(0, 0, 0, 0, 0), 40);
        Check.equal("other bytes behind the name", house.findByName(), -1);
        AccentHouse moved = new AccentHouse();
        moved.moveOut(0);
        Check.feed(moved, "bob");
        Check.equal("findByName after a leave", moved.findByName(), 0);
    }

    private static void search(String text, int due) {
        AccentHouse house = new AccentHouse();
        Check.feed(house, text);
        Check.equal("findByName of '" + text + "'", house.findByName(), due);
    }

    private static void floors() {
        AccentHouse house = Check.withLines(";lodger a 2 0 0 0 0 0 0;lodger b 0 0 0 0 0 0 0;lodger c 2 0 0 0 0 0 0"
                + ";lodger d 2 0 0 0 0 0 0;lodger e 4 0 0 0 0 0 0;lodger f 2 0 0 0 0 0 0");
        int[] crowds = {1, 0, 4, 0, 1};
        for (int floor = 0; floor < 5; floor++) {
            Check.equal("lodgersOn " + floor, house.lodgersOn(floor), crowds[floor]);
        }
        int[] places = {0, 2, 3, 5};
        for (int place = 0; place < 4; place++) {
            Check.equal("lodgerOn 2 at " + place, house.lodgerOn(2, place), places[place]);
        }
        Check.equal("lodgerOn 4", house.lodgerOn(4, 0), 4);
        for (int wrong : new int[] {-1, 5, LOW, HIGH}) {
            Check.outside("lodgersOn " + wrong, () -> house.lodgersOn(wrong));
            Check.outside("lodgerOn floor " + wrong, () -> house.lodgerOn(wrong, 0));
            Check.outside("writeFloor " + wrong, () -> house.writeFloor(wrong));
        }
        for (int wrong : new int[] {-1, 4, LOW, HIGH}) {
            Check.outside("lodgerOn place " + wrong, () -> house.lodgerOn(2, wrong));
        }
        Check.outside("lodgerOn of an empty floor", () -> house.lodgerOn(1, 0));
        house.moveTo(0, 1);
        Check.equal("lodgersOn after a move", house.lodgersOn(2), 3);
        Check.equal("lodgerOn after a move", house.lodgerOn(2, 0), 2);
    }

    private static void averages() {
        AccentHouse house = Check.withLines(";lodger a 0 0 9 1 0 5 2;lodger b 0 0 0 1 1 6 2;lodger c 0 0 2 1 0 6 9"
                + ";lodger d 4 0 1 2 3 4 5");
        int[] due = {3, 1, 0, 5, 4};
        for (int vowel = 0; vowel < 5; vowel++) {
            Check.equal("averageVowel " + vowel, house.averageVowel(0, vowel), due[vowel]);
            Check.equal("averageVowel of one lodger", house.averageVowel(4, vowel), vowel + 1);
            int asked = vowel;
            Check.refused("averageVowel of an empty floor", () -> house.averageVowel(2, asked));
        }
        for (int wrong : new int[] {-1, 5, LOW, HIGH}) {
            Check.outside("averageVowel floor " + wrong, () -> house.averageVowel(wrong, 0));
            Check.outside("averageVowel vowel " + wrong, () -> house.averageVowel(0, wrong));
            Check.outside("averageVowel of an empty floor, vowel " + wrong, () -> house.averageVowel(1, wrong));
        }
    }

    private static void distances() {
        AccentHouse house = Check.with("house 5 6;landlady 0 0 0 0 0;lodger a 0 0 9 9 9 9 9;lodger b 0 0 0 0 0 0 0"
                + ";lodger c 1 0 1 2 3 4 5");
        Check.equal("greatest distanceToLandlady", house.distanceToLandlady(0), 45);
        Check.equal("least distanceToLandlady", house.distanceToLandlady(1), 0);
        Check.equal("distanceToLandlady", house.distanceToLandlady(2), 15);
        Check.equal("greatest distance", house.distance(0, 1), 45);
        Check.equal("greatest distance, the other way", house.distance(1, 0), 45);
        Check.equal("distance", house.distance(0, 2), 30);
        Check.equal("distance to oneself", house.distance(2, 2), 0);
    }

    private static void rhymes() {
        AccentHouse house = Check.withLines(";lodger a 0 0 4 4 4 4 4;lodger b 0 0 4 4 4 4 9;lodger c 1 0 4 4 4 5 9"
                + ";lodger d 1 0 4 4 4 3 9;lodger e 1 0 0 4 4 4 4");
        boolean[] withLandlady = {true, true, false, false, true};
        int[] counts = {2, 3, 2, 2, 1};
        for (int i = 0; i < 5; i++) {
            Check.equal("rhymesWithLandlady " + i, house.rhymesWithLandlady(i), withLandlady[i]);
            Check.equal("rhymeCount " + i, house.rhymeCount(i), counts[i]);
            Check.equal("rhymes with oneself " + i, house.rhymes(i, i), true);
        }
        Check.equal("rhymes in all but one", house.rhymes(2, 3), true);
        Check.equal("rhymes, the other way", house.rhymes(3, 2), true);
        Check.equal("rhymes not in two", house.rhymes(0, 2), false);
        Check.equal("rhymes not in two others", house.rhymes(1, 4), false);
        AccentHouse full = Check.withLines("");
        for (int i = 0; i < 12; i++) {
            full.moveIn(i / 4, 0, 12345);
        }
        Check.equal("greatest rhymeCount", full.rhymeCount(11), 11);
        Check.equal("rhymeCount alone", Check.withLines(";lodger a 0 0 4 4 4 4 4").rhymeCount(0), 0);
    }

    private static void closest() {
        AccentHouse house = Check.withLines(";lodger a 0 0 4 4 4 4 4;lodger b 0 0 4 4 4 4 7;lodger c 1 0 4 4 4 4 1"
                + ";lodger d 1 0 4 4 4 4 9;lodger e 4 0 4 4 4 4 9");
        int[] due = {1, 3, 0, 4, 3};
        for (int i = 0; i < 5; i++) {
            Check.equal("closestTo " + i, house.closestTo(i), due[i]);
        }
        AccentHouse alone = Check.withLines(";lodger a 0 0 4 4 4 4 4");
        Check.equal("closestTo alone", alone.closestTo(0), AccentHouse.NONE);
        alone.moveIn(0, 0, 99999);
        Check.equal("closestTo, the only other", alone.closestTo(0), 1);
        Check.equal("closestTo, the only other back", alone.closestTo(1), 0);
    }

    private static void lessonVowels() {
        AccentHouse house = Check.withLines(";lodger a 0 0 4 4 4 4 4;lodger b 0 0 4 4 6 4 2;lodger c 1 0 4 5 4 6 9"
                + ";lodger d 1 0 0 8 4 4 4;lodger e 4 0 4 4 4 4 3");
        int[] due = {-1, 2, 4, 0, 4};
        for (int i = 0; i < 5; i++) {
            Check.equal("lessonVowel " + i, house.lessonVowel(i), due[i]);
        }
        house.advance(1);
        Check.equal("lessonVowel of a debtor", house.lessonVowel(4), 4);
    }

    private static void slipVowels() {
        AccentHouse house = Check.withLines(";lodger a 0 0 0 0 5 5 0;lodger b 0 0 0 3 5 0 0;lodger c 1 0 9 9 9 9 9"
                + ";lodger d 2 0 3 3 3 3 3;lodger e 2 0 3 3 3 3 4");
        // The average of floor 0 is 0 1 5 2 0, that of floor 2 is 3 3 3 3 3.
        int[] due = {3, 1, -1, -1, 4};
        for (int i = 0; i < 5; i++) {
            Check.equal("slipVowel " + i, house.slipVowel(i), due[i]);
        }
        house.moveTo(4, 1);
        // Now the average of floor 1 is 6 6 6 6 6 and both differ equally in several vowels.
        Check.equal("slipVowel, the smallest of equals", house.slipVowel(2), 0);
        Check.equal("slipVowel, the smallest of equals below", house.slipVowel(4), 0);
        Check.equal("slipVowel of the one left alone", house.slipVowel(3), -1);
    }

    private static void mustGo() {
        goes("lodger a 0 4 4 4 4 0 0", 8, false, "distance 8, tolerance 8");
        goes("lodger a 0 4 4 4 4 0 0", 7, true, "distance 8, tolerance 7");
        goes("lodger a 0 5 4 4 4 0 0", 6, false, "a balance of zero");
        goes("lodger a 0 4 4 4 4 4 9", 0, false, "an accent that rhymes");
        goes("lodger a 0 4 4 4 4 5 5", 0, true, "two vowels that differ");
        goes("lodger a 0 4 4 4 4 4 4", 0, false, "the landlady's accent");
    }

    private static void goes(String line, int tolerance, boolean due, String what) {
        AccentHouse house = Check.withLines(";" + line);
        house.setTolerance(tolerance);
        Check.equal("mustGo before the rent: " + what, house.mustGo(0), false);
        // The day costs 5; who can't pay takes no lesson and keeps the accent.
        house.advance(1);
        Check.equal("mustGo: " + what, house.mustGo(0), due);
    }

    private static void means() {
        AccentHouse house = Check.withLines(";lodger a 0 0 4 4 4 4 4;lodger b 0 0 4 4 4 4 9;lodger c 1 0 4 4 4 2 9");
        Check.equal("meanDistance", house.meanDistance(), (0.0 + 5.0 + 7.0) / 3.0);
        Check.equal("rhymingShare", house.rhymingShare(), 2.0f / 3.0f);
        house.moveOut(0);
        house.moveOut(0);
        Check.equal("meanDistance of one", house.meanDistance(), 7.0);
        Check.equal("rhymingShare of none", house.rhymingShare(), 0.0f);
        house.moveOut(0);
        Check.equal("meanDistance of an empty house", house.meanDistance(), 0.0);
        Check.equal("rhymingShare of an empty house", house.rhymingShare(), 0.0f);
        house.moveIn(0, 0, 44440);
        Check.equal("rhymingShare of all", house.rhymingShare(), 1.0f);
        house.moveIn(0, 0, 44441);
        Check.equal("meanDistance with a fraction", house.meanDistance(), 3.5);
    }

    private static void oneDay() {
        AccentHouse house = Check.withLines(";lodger ann 0 5 9 4 4 4 4;lodger bob 0 4 0 4 4 4 4");
        house.advance(1);
        // Ann pays and learns 8; the average of 8 and 0 is 4, so ann slips to 7 and bob to 1.
        Check.equal("the day", Check.state(house), "day 1 rent 5 tolerance 6 landlady 44444 evictions 0"
                + " paid 9 charged 10 settled 0"
                + "; ann floor 0 balance 0 accent 74444 lessons 1 slips 1 stayed 1"
                + "; bob floor 0 balance -1 accent 14444 lessons 0 slips 1 stayed 1");
        AccentHouse equals = Check.withLines(";lodger ann 0 99 4 0 8 4 4");
        equals.advance(1);
        Check.equal("the smallest of equals is trained", Check.accent(equals, 0), "41844");
        equals.advance(1);
        Check.equal("then the one that differs most", Check.accent(equals, 0), "41744");
    }

    private static void lessonsBeforeDinner() {
        AccentHouse house = Check.withLines(";lodger ann 0 99 4 4 4 4 6;lodger bob 0 0 4 4 4 4 6");
        house.advance(1);
        // After ann's lesson the average is 5; of the two only bob differs from it.
        Check.equal("ann does not slip", Check.accent(house, 0), "44445");
        Check.equal("ann's slips", house.slipsOf(0), 0);
        Check.equal("bob slips", Check.accent(house, 1), "44445");
        Check.equal("bob's slips", house.slipsOf(1), 1);
        AccentHouse once = Check.with("house 0 0;landlady 9 9 9 9 9;lodger a 4 0 0 0 0 0 0;lodger b 4 0 0 0 0 0 2");
        once.advance(1);
        // The average 0 0 0 0 1 is computed once: that a has moved to 1 does not hold b back.
        Check.equal("a slips up", Check.accent(once, 0), "00001");
        Check.equal("b slips down", Check.accent(once, 1), "00001");
    }

    private static void forecasts() {
        AccentHouse house = new AccentHouse();
        String before = Check.state(house);
        Check.equal("balanceAfter 0 days", house.balanceAfter(0, 0), 15);
        Check.equal("balanceAfter 100 days", house.balanceAfter(0, 100), 15 - 500);
        Check.equal("balanceAfter the day before", house.balanceAfter(2, 5), -60);
        Check.equal("balanceAfter the eviction", house.balanceAfter(2, 6), -70);
        Check.equal("balanceAfter long after it", house.balanceAfter(2, 100), -70);
        Check.equal("balanceAfter of one behind the evicted", house.balanceAfter(3, 100), -30);
        Check.equal("distanceAfter 0 days", house.distanceAfter(2, 0), 17);
        Check.equal("distanceAfter the day before", house.distanceAfter(2, 5) > 0, true);
        Check.equal("distanceAfter the eviction", house.distanceAfter(2, 6), AccentHouse.NONE);
        Check.equal("distanceAfter 100 days", house.distanceAfter(2, 100), AccentHouse.NONE);
        Check.equal("daysToEviction", house.daysToEviction(2), 6);
        Check.equal("daysToEviction of one who stays", house.daysToEviction(0), AccentHouse.NONE);
        Check.equal("forecasts change nothing", Check.state(house), before);
        Check.equal("forecasts are no changes", house.undoCount(), 0);
        for (int wrong : new int[] {-1, 101, LOW, HIGH}) {
            Check.illegal("balanceAfter days " + wrong, () -> house.balanceAfter(0, wrong));
            Check.illegal("distanceAfter days " + wrong, () -> house.distanceAfter(0, wrong));
        }
    }

    private static void forecastLimits() {
        // With 97 lessons the accent is the landlady's long before the money ends.
        AccentHouse learnt = Check.with("house 1 0;landlady 9 9 9 9 9;lodger a 0 98 0 0 0 0 0;days 1");
        Check.equal("an accent that is learnt in time", learnt.daysToEviction(0), AccentHouse.NONE);
        // Nothing to learn, until the landlady changes her accent on a day after the money has ended.
        AccentHouse late = Check.withLines(";lodger a 0 0 4 4 4 4 4;days 6");
        for (int vowel = 0; vowel < 5; vowel++) {
            late.setLandladyVowel(vowel, 9);
        }
        Check.equal("daysToEviction on the next day", late.daysToEviction(0), 1);
        AccentHouse edge = Check.with("house 1 0;landlady 0 0 0 0 0;lodger a 0 0 9 9 9 9 9");
        Check.equal("daysToEviction of the first inspection", edge.daysToEviction(0), 7);
        AccentHouse end = Check.withLines(";lodger a 0 0 9 9 9 9 9");
        for (int i = 0; i < 99; i++) {
            end.advance(100);
        }
        end.moveIn(0, 0, 99999);
        Check.equal("99 days are left", end.day(), 9900);
        end.advance(99);
        Check.equal("no day is left", end.day(), 9999);
        end.moveIn(0, 0, 99999);
        Check.equal("daysToEviction beyond day 9999", end.daysToEviction(0), 7 - 9999 % 7);
        Check.equal("balanceAfter beyond day 9999", end.balanceAfter(0, 1), -5);
        Check.equal("distanceAfter beyond day 9999", end.distanceAfter(0, 1), 25);
        Check.equal("paymentToStay beyond day 9999", end.paymentToStay(0) > 0, true);
    }

    private static void payments() {
        AccentHouse house = new AccentHouse();
        Check.equal("paymentToStay, none needed", house.paymentToStay(0), 0);
        // Cid has -10 and pays 10 a day for 6 days; each day covered is a lesson.
        int least = house.paymentToStay(2);
        Check.equal("paymentToStay is possible", least >= 1 && least <= 70, true);
        house.pay(2, least);
        Check.equal("with the payment cid stays", house.distanceAfter(2, 6) != AccentHouse.NONE, true);
        house.undo();
        house.pay(2, least - 1);
        Check.equal("with 1 less cid goes", house.distanceAfter(2, 6), AccentHouse.NONE);
        AccentHouse bound = Check.with("house 0 0;landlady 0 0 0 0 0;lodger a 0 0 9 9 9 9 9");
        bound.setBaseRent(50);
        bound.advance(6);
        Check.equal("paymentToStay of just the debt", bound.paymentToStay(0), 350);
        AccentHouse smallest = Check.with("house 1 0;landlady 0 0 0 0 0;lodger a 0 0 9 9 9 9 9;days 1");
        smallest.setBaseRent(0);
        Check.equal("the smallest payment", smallest.paymentToStay(0), 1);
        payment(1, 51);
        payment(949, 999);
        payment(950, AccentHouse.NONE);
    }

    /** Who owes so much a day before the inspection, and can't learn in time, pays that and a rent of 50. */
    private static void payment(int owed, int due) {
        AccentHouse house = Check.with("house 50 45;landlady 0 0 0 0 0;lodger a 0 0 9 9 9 9 9;days 97");
        house.setTolerance(0);
        int rest = -house.balanceOf(0) - owed;
        while (rest > 0) {
            int part = Math.min(rest, 999);
            house.pay(0, part);
            rest -= part;
        }
        Check.equal("the debt", house.balanceOf(0), -owed);
        Check.equal("days to the inspection", house.daysToInspection(), 1);
        Check.equal("paymentToStay with a debt of " + owed, house.paymentToStay(0), due);
    }

    private static void accounts() {
        AccentHouse house = Check.withLines(";lodger ann 0 20 4 4 4 4 6;days 1;pay ann 30;lodger bob 2 100 0 0 0 0 0;days 2");
        Check.equal("totalPaid by the text", house.totalPaid(), 150);
        Check.equal("totalCharged by the text", house.totalCharged(), 5 + 2 * (5 + 15));
        Check.equal("settled by the text", house.settled(), 0);
        Check.equal("ledgerDifference", house.ledgerDifference(), 0);
        house.pay(0, 999);
        house.moveIn(1, 7, 0);
        Check.equal("totalPaid by calls", house.totalPaid(), 150 + 999 + 7);
        house.advance(1);
        Check.equal("totalCharged by calls", house.totalCharged(), 45 + 5 + 15 + 10);
        Check.equal("moveOut answers", house.moveOut(1), 100 - 45);
        Check.equal("settled by moveOut", house.settled(), 55);
        house.moveOut(1);
        Check.equal("settled with a debt", house.settled(), 55 + 7 - 10);
        Check.equal("ledgerDifference after leaves", house.ledgerDifference(), 0);
        AccentHouse evicted = Check.withLines(";lodger ann 0 1 0 0 0 0 0;days 7");
        Check.equal("settled by an eviction in the text", evicted.settled(), -34);
        Check.equal("ledgerDifference after an eviction", evicted.ledgerDifference(), 0);
        Check.load(evicted, Check.HEADER);
        Check.equal("totalPaid after a load", evicted.totalPaid(), 0);
        Check.equal("totalCharged after a load", evicted.totalCharged(), 0);
        Check.equal("settled after a load", evicted.settled(), 0);
    }

    private static void writeLodger() {
        AccentHouse house = Check.withLines(";lodger longer 4 999 0 9 8 7 6;lodger b 0 0 4 4 4 4 4");
        Check.equal("writeLodger", Check.output(house, house.writeLodger(0)), "longer 09876 999");
        Check.equal("writeLodger replaces", Check.output(house, house.writeLodger(1)), "b 44444 0");
        house.advance(2);
        Check.equal("writeLodger with a debt", Check.output(house, house.writeLodger(1)), "b 44444 -10");
        Check.outside("writeLodger of nobody", () -> house.writeLodger(2));
        Check.equal("a failed call keeps the output", Check.output(house, 11), "b 44444 -10");
        house.undo();
        Check.equal("undo keeps the output", Check.output(house, 11), "b 44444 -10");
        Check.load(house, Check.HEADER);
        Check.equal("load keeps the output", Check.output(house, 11), "b 44444 -10");
    }

    private static void writeFloor() {
        AccentHouse house = Check.withLines(";lodger longer 4 9 0 9 8 7 6;lodger b 0 0 4 4 4 4 4;lodger c 4 0 4 4 4 4 4"
                + ";lodger longes 4 9 0 9 8 7 6;lodger z 4 0 4 4 4 4 4");
        Check.equal("writeFloor of four", Check.output(house, house.writeFloor(4)), "longer,c,longes,z");
        Check.equal("writeFloor of one", Check.output(house, house.writeFloor(0)), "b");
        Check.outside("writeFloor of none such", () -> house.writeFloor(5));
        Check.equal("a failed call keeps the output", Check.output(house, 1), "b");
        Check.equal("writeFloor of an empty floor", house.writeFloor(2), 0);
        Check.outside("the output of an empty floor", () -> house.outputCharacter(0));
    }

    private static void outputCharacter() {
        AccentHouse house = new AccentHouse();
        int length = house.writeLodger(1);
        Check.equal("the length", length, "bob 14444 -2".length());
        Check.equal("the first character", house.outputCharacter(0), 'b');
        Check.equal("the last character", house.outputCharacter(length - 1), '2');
        for (int wrong : new int[] {-1, length, LOW, HIGH}) {
            Check.outside("outputCharacter " + wrong, () -> house.outputCharacter(wrong));
        }
    }
}
