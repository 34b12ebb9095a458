/** The boundary cases of the changes, of undo and of the saved states: promises 46 to 56. */
final class ChangeBounds {
    private static final String NO_LODGER = "Throws `IndexOutOfBoundsException` if there is no such lodger";
    private static final String NO_VOWEL = "Throws `IndexOutOfBoundsException` if vowel is not 0 to 4";
    private static final String NO_SLOT = "Throws `IndexOutOfBoundsException` if slot is neither 0 nor 1";
    private static final String SLOT = "- `slot`: 0 or 1";

    private ChangeBounds() {
    }

    static void run() {
        advance();
        lastDay();
        moveIn();
        moveInNames();
        moveInArguments();
        moveInRefused();
        moveOut();
        moveTo();
        moveToRefused();
        pay();
        setLandladyVowel();
        setTolerance();
        setBaseRent();
        restore();
        undo();
        save();
    }

    private static void advance() {
        Document.says(46, "Advances the simulation.");
        AccentHouse byOne = new AccentHouse();
        for (int i = 0; i < 100; i++) {
            byOne.advance(1);
        }
        AccentHouse atOnce = new AccentHouse();
        atOnce.advance(100);
        Check.equal("100 days at once or one by one", Check.state(atOnce), Check.state(byOne));

        Document.says(46, "- `days`: 1 to 100");
        AccentHouse house = Check.withLines("");
        house.advance(1);
        Check.equal("the fewest", house.day(), 1);
        house.advance(100);
        Check.equal("the most", house.day(), 101);

        Document.says(46, "Returns the number of lodgers who were evicted on these days.");
        AccentHouse evicting = Check.withLines(";lodger a 0 0 9 9 9 9 9;lodger b 1 0 9 9 9 9 9;days 7"
                + ";lodger a 0 0 9 9 9 9 9;lodger b 1 70 9 9 9 9 9");
        Check.equal("none before the inspection", evicting.advance(6), 0);
        Check.equal("one at the inspection", evicting.advance(1), 1);
        Check.equal("none on the day after", evicting.advance(1), 0);
        evicting.moveIn(0, 0, 99999);
        Check.equal("two more, not all four", evicting.advance(6), 2);
        Check.equal("none in an empty house", evicting.advance(100), 0);
        AccentHouse several = Check.withLines(";lodger a 0 0 9 9 9 9 9;lodger b 1 70 9 9 9 9 9");
        Check.equal("at several inspections", several.advance(14), 2);

        Document.says(46, "Throws `IllegalArgumentException` if days is out of range");
        Bounds.range(1, 100, AccentHouse::advance);
    }

    private static AccentHouse onDay9900() {
        AccentHouse house = Check.withLines("");
        for (int i = 0; i < 99; i++) {
            house.advance(100);
        }
        return house;
    }

    private static void lastDay() {
        Document.says(46, "Throws `IllegalStateException` if the day counter would exceed 9999");
        AccentHouse house = onDay9900();
        Check.refused("to day 10000", () -> house.advance(100));
        Check.equal("the day stays", house.day(), 9900);
        Check.equal("to day 9999", house.advance(99) + house.day(), 9999);
        Check.equal("a change was recorded", house.undoCount(), 10);
        Check.refused("beyond day 9999", () -> house.advance(1));
        Check.refused("far beyond day 9999", () -> house.advance(100));
        Check.illegal("days out of range on day 9999", () -> house.advance(0));
        house.undo();
        Check.equal("to day 9998", house.advance(98) + house.day(), 9998);
        Check.refused("to day 10000 from there", () -> house.advance(2));
        Check.equal("to day 9999 from there", house.advance(1) + house.day(), 9999);
    }

    private static void moveIn() {
        Document.says(47, "Lets a new lodger move in.");
        AccentHouse house = new AccentHouse();
        house.advance(1);
        int lodger = house.moveIn(3, 7, 1234);
        Check.equal("how many there are", house.lodgerCount(), 5);
        Check.equal("all of the new one", Check.name(house, lodger) + " " + house.floorOf(lodger) + " "
                + house.balanceOf(lodger) + " " + Check.accent(house, lodger) + " " + house.lessonsOf(lodger) + " "
                + house.slipsOf(lodger) + " " + house.daysStayed(lodger), "a 3 7 01234 0 0 0");

        Document.says(47, "Returns the number of the new lodger.");
        Check.equal("the first of an empty house", Check.withLines("").moveIn(0, 0, 0), 0);
        Check.equal("the last of a full house", Bounds.crowd(11).moveIn(3, 0, 0), 11);
        house.moveOut(0);
        Check.equal("behind one who left", house.moveIn(0, 0, 0), 4);
    }

    private static void moveInNames() {
        Document.says(47, "The name is the first single letter from a to z that no lodger has as name.");
        AccentHouse house = Check.withLines(";lodger aa 0 0 0 0 0 0 0;lodger b 0 0 0 0 0 0 0;lodger z 0 0 0 0 0 0 0"
                + ";lodger d 1 0 0 0 0 0 0");
        String[] due = {"a", "c", "e"};
        for (String name : due) {
            Check.equal("the first free", Check.name(house, house.moveIn(2, 0, 0)), name);
        }
        house.moveOut(4);
        Check.equal("a is free again", Check.name(house, house.moveIn(2, 0, 0)), "a");
        AccentHouse high = Check.withLines(";lodger a 0 0 0 0 0 0 0;lodger b 0 0 0 0 0 0 0;lodger c 0 0 0 0 0 0 0"
                + ";lodger d 0 0 0 0 0 0 0;lodger e 1 0 0 0 0 0 0;lodger f 1 0 0 0 0 0 0;lodger g 1 0 0 0 0 0 0"
                + ";lodger h 1 0 0 0 0 0 0;lodger i 2 0 0 0 0 0 0;lodger j 2 0 0 0 0 0 0;lodger k 2 0 0 0 0 0 0");
        Check.equal("the highest that can be needed", Check.name(high, high.moveIn(2, 0, 0)), "l");
    }

    private static void moveInArguments() {
        Document.says(47, "- `floor`: 0 to 4");
        AccentHouse house = Check.withLines("");
        for (int floor = 0; floor < 5; floor++) {
            Check.equal("floor " + floor, house.floorOf(house.moveIn(floor, 0, 0)), floor);
        }

        Document.says(47, "- `payment`: 0 to 999");
        Check.equal("the least", house.balanceOf(house.moveIn(0, 0, 0)), 0);
        Check.equal("the greatest", house.balanceOf(house.moveIn(0, 999, 0)), 999);

        Document.says(47, "- `accent`: the positions of the five vowels as the digits of a number from 0 to 99999, with leading"
                + " zeros: the first digit is the position of a, the last one that of u");
        int[] accents = {0, 1, 10, 10000, 12345, 98765, 99999};
        String[] due = {"00000", "00001", "00010", "10000", "12345", "98765", "99999"};
        for (int i = 0; i < accents.length; i++) {
            AccentHouse one = Check.withLines("");
            one.moveIn(0, 0, accents[i]);
            Check.equal("the accent " + accents[i], Check.accent(one, 0), due[i]);
        }

        Document.says(47, "Throws `IllegalArgumentException` if a parameter is out of range");
        Bounds.range(0, 4, (any, floor) -> any.moveIn(floor, 0, 0));
        Bounds.range(0, 999, (any, payment) -> any.moveIn(4, payment, 0));
        Bounds.range(0, 99999, (any, accent) -> any.moveIn(4, 0, accent));
        Check.illegal("all three", () -> house.moveIn(5, 1000, 100000));
        Check.illegal("into a full house", () -> Bounds.crowd(12).moveIn(3, 1000, 0));
        Check.illegal("to a full floor", () -> Bounds.crowd(4).moveIn(0, 0, -1));
    }

    private static void moveInRefused() {
        Document.says(47, "Throws `IllegalStateException` if the house has 12 lodgers, or the floor has 4");
        AccentHouse full = Bounds.crowd(12);
        Check.refused("12 lodgers, an empty floor", () -> full.moveIn(3, 0, 0));
        Check.refused("12 lodgers, a full floor", () -> full.moveIn(0, 0, 0));
        full.moveOut(11);
        Check.answers("11 lodgers", () -> full.moveIn(4, 0, 0));
        for (int floor = 0; floor < 5; floor++) {
            AccentHouse house = Check.withLines("");
            int asked = floor;
            for (int i = 0; i < 4; i++) {
                Check.answers(i + " on floor " + floor, () -> house.moveIn(asked, 0, 0));
            }
            Check.refused("4 on floor " + floor, () -> house.moveIn(asked, 0, 0));
            Check.equal("only those were recorded", house.undoCount(), 4);
            house.moveTo(0, (floor + 1) % 5);
            Check.answers("3 are left", () -> house.moveIn(asked, 0, 0));
        }
    }

    private static void moveOut() {
        Document.says(48, "Lets a lodger move out.");
        AccentHouse house = new AccentHouse();
        house.moveOut(1);
        Check.equal("who is left", Check.name(house, 0) + Check.name(house, 1) + Check.name(house, 2), "annciddot");
        for (int left = 2; left >= 0; left--) {
            house.moveOut(left);
            Check.equal("how many are left", house.lodgerCount(), left);
        }

        Document.says(48, "Returns the balance of the lodger.");
        AccentHouse first = new AccentHouse();
        Check.equal("in debt", first.moveOut(1), -2);
        Check.equal("with money", first.moveOut(2), 30);
        first.moveIn(0, 0, 0);
        Check.equal("with nothing", first.moveOut(2), 0);

        Document.says(48, NO_LODGER);
        Bounds.lodgers(AccentHouse::moveOut);
    }

    private static AccentHouse fullFloor() {
        return Check.withLines(";lodger a 2 0 0 0 0 0 0;lodger b 2 0 0 0 0 0 0;lodger c 2 0 0 0 0 0 0;lodger d 2 0 0 0 0 0 0"
                + ";lodger e 4 0 0 0 0 0 0");
    }

    private static void moveTo() {
        Document.says(49, "Moves a lodger to another floor, or to the same one.");
        AccentHouse house = fullFloor();
        house.moveTo(4, 4);
        Check.equal("to the same one", house.floorOf(4), 4);
        house.moveTo(0, 2);
        Check.equal("to the same full one", house.lodgersOn(2), 4);
        house.moveTo(0, 4);
        Check.equal("to another one", house.floorOf(0), 4);
        Check.equal("the number stays", Check.name(house, 0), "a");

        Document.says(49, "- `floor`: 0 to 4");
        for (int floor = 0; floor < 5; floor++) {
            house.moveTo(1, floor);
            Check.equal("floor " + floor, house.floorOf(1), floor);
        }

        Document.says(49, "Returns the previous floor.");
        Check.equal("from the highest", house.moveTo(1, 0), 4);
        Check.equal("from the lowest", house.moveTo(1, 0), 0);
        Check.equal("from the lowest to another", house.moveTo(1, 3), 0);
    }

    private static void moveToRefused() {
        Document.says(49, NO_LODGER);
        Bounds.lodgers((crowd, lodger) -> crowd.moveTo(lodger, 4));
        Check.outside("to no floor", () -> fullFloor().moveTo(5, 5));
        Check.outside("to a full floor", () -> fullFloor().moveTo(5, 2));

        Document.says(49, "Throws `IllegalArgumentException` if floor is out of range");
        Bounds.range(0, 4, (any, floor) -> any.moveTo(0, floor));

        Document.says(49, "Throws `IllegalStateException` if 4 other lodgers live on the floor");
        AccentHouse house = fullFloor();
        Check.refused("4 others", () -> house.moveTo(4, 2));
        Check.equal("the floor stays", house.floorOf(4), 4);
        for (int lodger = 0; lodger < 4; lodger++) {
            int mover = lodger;
            Check.answers("3 others and the mover " + lodger, () -> house.moveTo(mover, 2));
        }
        house.moveTo(1, 0);
        Check.answers("3 others", () -> house.moveTo(4, 2));
        Check.refused("4 others again", () -> house.moveTo(1, 2));
    }

    private static void pay() {
        Document.says(50, "Records a payment.");
        AccentHouse house = new AccentHouse();
        house.pay(1, 2);
        Check.equal("of the debt", house.balanceOf(1) + " " + house.totalPaid(), "0 65");

        Document.says(50, "- `amount`: 1 to 999");
        house.pay(1, 1);
        Check.equal("the least", house.balanceOf(1) + " " + house.totalPaid(), "1 66");
        house.pay(1, 999);
        Check.equal("the greatest", house.balanceOf(1) + " " + house.totalPaid(), "1000 1065");

        Document.says(50, "Returns the new balance.");
        Check.equal("still in debt", house.pay(2, 9), -1);
        Check.equal("no longer in debt", house.pay(2, 1), 0);
        Check.equal("with money", house.pay(2, 999), 999);

        Document.says(50, NO_LODGER);
        Bounds.lodgers((crowd, lodger) -> crowd.pay(lodger, 1));
        Check.outside("a wrong amount too", () -> house.pay(4, 0));

        Document.says(50, "Throws `IllegalArgumentException` if amount is out of range");
        Bounds.range(1, 999, (any, amount) -> any.pay(3, amount));
    }

    private static void setLandladyVowel() {
        Document.says(51, "Sets a position of the landlady's accent.");
        AccentHouse house = new AccentHouse();
        for (int vowel = 0; vowel < 5; vowel++) {
            house.setLandladyVowel(vowel, 5 + vowel);
        }
        for (int vowel = 0; vowel < 5; vowel++) {
            Check.equal("vowel " + vowel, house.landladyVowel(vowel), 5 + vowel);
        }

        Document.says(51, "- `position`: 0 to 9");
        for (int vowel = 0; vowel < 5; vowel++) {
            house.setLandladyVowel(vowel, 9);
            Check.equal("the highest", house.landladyVowel(vowel), 9);
            house.setLandladyVowel(vowel, 0);
            Check.equal("the lowest", house.landladyVowel(vowel), 0);
        }

        Document.says(51, "Returns the previous position.");
        Check.equal("from the lowest", house.setLandladyVowel(4, 9), 0);
        Check.equal("from the highest", house.setLandladyVowel(4, 9), 9);
        Check.equal("from the same", house.setLandladyVowel(4, 3), 9);

        Document.says(51, NO_VOWEL);
        Bounds.vowels((any, vowel) -> any.setLandladyVowel(vowel, 9));
        Check.outside("a wrong position too", () -> house.setLandladyVowel(5, 10));

        Document.says(51, "Throws `IllegalArgumentException` if position is out of range");
        Bounds.range(0, 9, (any, position) -> any.setLandladyVowel(4, position));
    }

    private static void setTolerance() {
        AccentHouse house = new AccentHouse();
        Document.says(52, "Sets the tolerance.");
        house.setTolerance(7);
        Check.equal("to 7", house.tolerance(), 7);

        Document.says(52, "- `tolerance`: 0 to 45");
        house.setTolerance(0);
        Check.equal("the least", house.tolerance(), 0);
        house.setTolerance(45);
        Check.equal("the greatest", house.tolerance(), 45);

        Document.says(52, "Returns the previous tolerance.");
        Check.equal("from the greatest", house.setTolerance(0), 45);
        Check.equal("from the least", house.setTolerance(0), 0);
        Check.equal("from the same", house.setTolerance(1), 0);

        Document.says(52, "Throws `IllegalArgumentException` if tolerance is out of range");
        Bounds.range(0, 45, AccentHouse::setTolerance);
    }

    private static void setBaseRent() {
        AccentHouse house = new AccentHouse();
        Document.says(53, "Sets the base rent.");
        house.setBaseRent(7);
        Check.equal("to 7", house.baseRent() + " " + house.rentOf(1), "7 12");

        Document.says(53, "- `rent`: 0 to 50");
        house.setBaseRent(0);
        Check.equal("the least", house.baseRent(), 0);
        house.setBaseRent(50);
        Check.equal("the greatest", house.baseRent(), 50);

        Document.says(53, "Returns the previous base rent.");
        Check.equal("from the greatest", house.setBaseRent(0), 50);
        Check.equal("from the least", house.setBaseRent(0), 0);
        Check.equal("from the same", house.setBaseRent(1), 0);

        Document.says(53, "Throws `IllegalArgumentException` if rent is out of range");
        Bounds.range(0, 50, AccentHouse::setBaseRent);
    }

    private static void restore() {
        Document.says(54, "Restores a saved state.");
        AccentHouse house = new AccentHouse();
        String first = Check.state(house);
        house.save(0);
        house.moveOut(0);
        house.advance(100);
        house.setLandladyVowel(0, 0);
        house.restore(0);
        Check.equal("the whole state", Check.state(house), first);
        Check.equal("the changes before stay recorded", house.undoCount(), 4);

        Document.says(54, "The state stays saved.");
        house.advance(3);
        house.restore(0);
        Check.equal("a second time", Check.state(house), first);
        house.undo();
        Check.equal("the day before it", house.day(), 4);
        house.restore(0);
        Check.equal("a third time", Check.state(house), first);

        Document.says(54, SLOT);
        house.advance(1);
        house.save(1);
        Check.equal("slot 0", house.restore(0), 1);
        Check.equal("slot 1", house.restore(1), 2);

        Document.says(54, "Returns the day counter of the restored state.");
        AccentHouse days = Check.withLines("");
        days.save(0);
        days.advance(100);
        days.save(1);
        Check.equal("day 0", days.restore(0), 0);
        Check.equal("day 100", days.restore(1), 100);

        Document.says(54, NO_SLOT);
        Bounds.slots(AccentHouse::restore);
        Bounds.between(IndexOutOfBoundsException.class, AccentHouse::new, 0, 1, (any, slot) -> {
            if (slot == 0 || slot == 1) {
                any.save(slot);
            }
            return any.restore(slot);
        });

        Document.says(54, "Throws `IllegalStateException` if nothing is saved in the slot");
        for (int i = 0; i < 2; i++) {
            int slot = i;
            AccentHouse empty = new AccentHouse();
            Check.refused("slot " + slot + " of a new object", () -> empty.restore(slot));
            empty.save(1 - slot);
            Check.refused("slot " + slot + ", only the other one is full", () -> empty.restore(slot));
            Check.equal("nothing is recorded", empty.undoCount(), 0);
            empty.save(slot);
            Check.answers("slot " + slot, () -> empty.restore(slot));
            Check.load(empty, Check.HEADER);
            Check.refused("slot " + slot + " after a load", () -> empty.restore(slot));
        }
    }

    private static void undo() {
        Document.says(55, "Undoes the last recorded change that has not been undone.");
        AccentHouse house = new AccentHouse();
        house.pay(0, 1);
        house.pay(0, 10);
        house.pay(0, 100);
        house.undo();
        Check.equal("the last", house.balanceOf(0), 26);
        house.undo();
        Check.equal("the one before, not the last again", house.balanceOf(0), 16);
        house.pay(0, 500);
        house.undo();
        Check.equal("a later one", house.balanceOf(0), 16);
        house.undo();
        Check.equal("the first", house.balanceOf(0), 15);

        Document.says(55, "Returns the number of changes that can still be undone.");
        AccentHouse eleven = new AccentHouse();
        for (int i = 0; i < 11; i++) {
            eleven.pay(0, 1);
        }
        for (int left = 9; left >= 0; left--) {
            Check.equal("after 11 changes", eleven.undo(), left);
        }

        Document.says(55, "Throws `IllegalStateException` if there is no change to undo");
        Check.refused("a new object", () -> new AccentHouse().undo());
        Check.refused("all 10 are undone", () -> eleven.undo());
        Check.refused("once more", () -> eleven.undo());
        Check.equal("nothing changes", eleven.balanceOf(0) + " " + eleven.undoCount(), "16 0");
        eleven.pay(0, 1);
        Check.equal("one change since", eleven.undo(), 0);
    }

    private static void save() {
        Document.says(56, "Saves the state that undo() restores in a slot and replaces what was saved there.");
        AccentHouse house = new AccentHouse();
        house.save(0);
        house.advance(6);
        String later = Check.state(house);
        house.save(0);
        house.moveOut(0);
        house.restore(0);
        Check.equal("the later state", Check.state(house), later);
        house.pay(0, 1);
        house.restore(0);
        Check.equal("a change after it is not saved", Check.state(house), later);

        Document.says(56, "This is not a change.");
        AccentHouse quiet = new AccentHouse();
        quiet.pay(0, 1);
        quiet.save(0);
        quiet.save(1);
        Check.equal("undoCount", quiet.undoCount(), 1);
        quiet.undo();
        Check.equal("the change before is undone", quiet.balanceOf(0), 15);

        Document.says(56, SLOT);
        AccentHouse both = new AccentHouse();
        both.save(0);
        both.advance(1);
        both.save(1);
        both.advance(1);
        Check.equal("slot 1", both.restore(1), 2);
        Check.equal("slot 0", both.restore(0), 1);

        Document.says(56, "Returns the day counter of the saved state.");
        AccentHouse days = Check.withLines("");
        Check.equal("day 0", days.save(0), 0);
        days.advance(100);
        Check.equal("day 100", days.save(0), 100);
        Check.equal("day 9900", onDay9900().save(1), 9900);

        Document.says(56, NO_SLOT);
        Bounds.slots(AccentHouse::save);
    }
}
