import java.util.function.ToIntFunction;

/** Promises 14 and 46 to 56: the changes, undo and the saved states. */
public final class ChangeTest {
    private static final int LOW = Integer.MIN_VALUE;
    private static final int HIGH = Integer.MAX_VALUE;

    public static void main(String[] args) {
        advance();
        lastDay();
        moveIn();
        moveInNames();
        moveInRefused();
        moveOut();
        moveTo();
        pay();
        setters();
        save();
        restore();
        undoEach();
        undoTen();
        undoOrder();
        rejectedCallsAlterNothing();
        Check.finish();
    }

    private static void advance() {
        AccentHouse house = new AccentHouse();
        Check.equal("nobody is evicted before day 7", house.advance(5), 0);
        Check.equal("two are evicted on day 7", house.advance(1), 2);
        Check.equal("day 7", house.day(), 7);
        Check.equal("advance 100 days", house.advance(100), 0);
        Check.equal("day 107", house.day(), 107);
        Check.equal("who stays", Check.name(house, 1), "bob");
        AccentHouse twice = Check.withLines(";lodger a 0 30 9 9 9 9 9;lodger b 0 90 9 9 9 9 9;lodger c 1 999 4 4 4 4 4");
        twice.setTolerance(0);
        twice.setLandladyVowel(0, 0);
        twice.setLandladyVowel(1, 0);
        Check.equal("evictions on several inspections are summed", twice.advance(100), 2);
        for (int wrong : new int[] {0, -1, 101, LOW, HIGH}) {
            Check.illegal("advance " + wrong, () -> house.advance(wrong));
        }
    }

    private static void lastDay() {
        AccentHouse house = Check.withLines("");
        for (int i = 0; i < 99; i++) {
            house.advance(100);
        }
        Check.equal("day 9900", house.day(), 9900);
        Check.refused("advance to day 10000", () -> house.advance(100));
        Check.illegal("advance out of range before the last day", () -> house.advance(101));
        Check.equal("advance to day 9998", house.advance(98), 0);
        Check.refused("advance from 9998 to 10000", () -> house.advance(2));
        Check.equal("advance to day 9999", house.advance(1), 0);
        Check.equal("day 9999", house.day(), 9999);
        Check.refused("advance beyond 9999", () -> house.advance(1));
        Check.illegal("advance 0 on the last day", () -> house.advance(0));
    }

    private static void moveIn() {
        AccentHouse house = new AccentHouse();
        house.advance(2);
        Check.equal("moveIn", house.moveIn(4, 999, 1234), 4);
        Check.equal("its accent with a leading zero", Check.accent(house, 4), "01234");
        Check.equal("its floor", house.floorOf(4), 4);
        Check.equal("its payment", house.balanceOf(4), 999);
        Check.equal("its days", house.daysStayed(4), 0);
        Check.equal("its lessons", house.lessonsOf(4), 0);
        Check.equal("its slips", house.slipsOf(4), 0);
        Check.equal("totalPaid with it", house.totalPaid(), 63 + 999);
        Check.equal("moveIn, the least", house.moveIn(0, 0, 0), 5);
        Check.equal("the least accent", Check.accent(house, 5), "00000");
        Check.equal("moveIn, the highest accent", house.moveIn(0, 0, 99999), 6);
        Check.equal("the highest accent", Check.accent(house, 6), "99999");
        house.advance(1);
        house.moveOut(6);
        house.moveOut(5);
        house.moveIn(2, 0, 98765);
        Check.equal("the next begins anew", house.lessonsOf(5) + house.slipsOf(5) + house.daysStayed(5), 0);
        Check.equal("the next has no other's balance", house.balanceOf(5), 0);
        for (int wrong : new int[] {-1, LOW, HIGH}) {
            Check.illegal("moveIn floor " + wrong, () -> house.moveIn(wrong, 0, 0));
            Check.illegal("moveIn payment " + wrong, () -> house.moveIn(2, wrong, 0));
            Check.illegal("moveIn accent " + wrong, () -> house.moveIn(2, 0, wrong));
        }
        Check.illegal("moveIn floor 5", () -> house.moveIn(5, 0, 0));
        Check.illegal("moveIn payment 1000", () -> house.moveIn(2, 1000, 0));
        Check.illegal("moveIn accent 100000", () -> house.moveIn(2, 0, 100000));
    }

    private static void moveInNames() {
        AccentHouse house = Check.withLines(";lodger aa 0 0 0 0 0 0 0;lodger b 0 0 0 0 0 0 0;lodger d 0 0 0 0 0 0 0");
        String[] due = {"a", "c", "e", "f"};
        for (String name : due) {
            int lodger = house.moveIn(lodgers(house) % 5, 0, 0);
            Check.equal("the first free letter", Check.name(house, lodger), name);
        }
        house.moveOut(1);
        Check.equal("a letter that is free again", Check.name(house, house.moveIn(0, 0, 0)), "b");
        AccentHouse full = Check.withLines("");
        for (int i = 0; i < 12; i++) {
            full.moveIn(i / 4, 0, 0);
        }
        Check.equal("the twelfth letter", Check.name(full, 11), "l");
    }

    private static int lodgers(AccentHouse house) {
        return house.lodgerCount();
    }

    private static void moveInRefused() {
        AccentHouse house = Check.withLines("");
        for (int i = 0; i < 4; i++) {
            house.moveIn(3, 0, 0);
        }
        Check.refused("moveIn to a full floor", () -> house.moveIn(3, 0, 0));
        Check.illegal("moveIn to a full floor, wrong payment", () -> house.moveIn(3, 1000, 0));
        Check.illegal("moveIn to a full floor, wrong accent", () -> house.moveIn(3, 0, 100000));
        for (int i = 0; i < 8; i++) {
            house.moveIn(i / 4, 0, 0);
        }
        Check.refused("moveIn to a full house", () -> house.moveIn(4, 0, 0));
        Check.illegal("moveIn to a full house, wrong floor", () -> house.moveIn(5, 0, 0));
        Check.equal("12 lodgers", house.lodgerCount(), 12);
        house.moveOut(0);
        Check.equal("a place is free again", house.moveIn(3, 0, 0), 11);
    }

    private static void moveOut() {
        AccentHouse house = new AccentHouse();
        Check.equal("moveOut with a debt", house.moveOut(1), -2);
        Check.equal("the later numbers decrease", Check.name(house, 1) + Check.name(house, 2), "ciddot");
        Check.equal("the earlier number stays", Check.name(house, 0), "ann");
        Check.equal("moveOut of the last", house.moveOut(2), 30);
        Check.equal("moveOut of the first", house.moveOut(0), 15);
        Check.equal("settled", house.settled(), 43);
        Check.equal("who is left", Check.name(house, 0), "cid");
        for (int wrong : new int[] {-1, 1, 12, LOW, HIGH}) {
            Check.outside("moveOut " + wrong, () -> house.moveOut(wrong));
        }
    }

    private static void moveTo() {
        AccentHouse house = Check.withLines(";lodger a 2 0 0 0 0 0 0;lodger b 2 0 0 0 0 0 0;lodger c 2 0 0 0 0 0 0"
                + ";lodger d 2 0 0 0 0 0 0;lodger e 4 0 0 0 0 0 0");
        Check.refused("moveTo a full floor", () -> house.moveTo(4, 2));
        Check.equal("moveTo the own full floor", house.moveTo(3, 2), 2);
        Check.equal("moveTo", house.moveTo(0, 4), 2);
        Check.equal("the floor moved to", house.floorOf(0), 4);
        Check.equal("moveTo the place left", house.moveTo(4, 2), 4);
        Check.equal("the number stays", Check.name(house, 4), "e");
        Check.equal("moveTo the lowest floor", house.moveTo(4, 0), 2);
        for (int wrong : new int[] {-1, 5, LOW, HIGH}) {
            Check.outside("moveTo of " + wrong, () -> house.moveTo(wrong, 0));
            Check.outside("moveTo, both wrong", () -> house.moveTo(wrong, 5));
            Check.illegal("moveTo floor " + wrong, () -> house.moveTo(0, wrong));
        }
    }

    private static void pay() {
        AccentHouse house = new AccentHouse();
        Check.equal("pay a debt", house.pay(1, 1), -1);
        Check.equal("pay the most", house.pay(1, 999), 998);
        Check.equal("the new balance", house.balanceOf(1), 998);
        Check.equal("totalPaid", house.totalPaid(), 1063);
        for (int wrong : new int[] {-1, 4, LOW, HIGH}) {
            Check.outside("pay of " + wrong, () -> house.pay(wrong, 1));
            Check.outside("pay, both wrong", () -> house.pay(wrong, 0));
        }
        for (int wrong : new int[] {0, -1, 1000, LOW, HIGH}) {
            Check.illegal("pay " + wrong, () -> house.pay(0, wrong));
        }
    }

    private static void setters() {
        AccentHouse house = new AccentHouse();
        for (int vowel = 0; vowel < 5; vowel++) {
            Check.equal("setLandladyVowel", house.setLandladyVowel(vowel, 9 - vowel), 4);
            Check.equal("setLandladyVowel again", house.setLandladyVowel(vowel, vowel == 0 ? 9 : vowel - 1), 9 - vowel);
        }
        int[] landlady = {9, 0, 1, 2, 3};
        for (int vowel = 0; vowel < 5; vowel++) {
            Check.equal("landladyVowel " + vowel, house.landladyVowel(vowel), landlady[vowel]);
        }
        Check.equal("setTolerance", house.setTolerance(45), 6);
        Check.equal("setTolerance to 0", house.setTolerance(0), 45);
        Check.equal("tolerance", house.tolerance(), 0);
        Check.equal("setBaseRent", house.setBaseRent(50), 5);
        Check.equal("setBaseRent to 0", house.setBaseRent(0), 50);
        Check.equal("baseRent", house.baseRent(), 0);
        for (int wrong : new int[] {-1, LOW, HIGH}) {
            Check.outside("setLandladyVowel vowel " + wrong, () -> house.setLandladyVowel(wrong, 0));
            Check.outside("setLandladyVowel, both wrong", () -> house.setLandladyVowel(wrong, 10));
            Check.illegal("setLandladyVowel position " + wrong, () -> house.setLandladyVowel(0, wrong));
            Check.illegal("setTolerance " + wrong, () -> house.setTolerance(wrong));
            Check.illegal("setBaseRent " + wrong, () -> house.setBaseRent(wrong));
        }
        Check.outside("setLandladyVowel vowel 5", () -> house.setLandladyVowel(5, 0));
        Check.illegal("setLandladyVowel position 10", () -> house.setLandladyVowel(0, 10));
        Check.illegal("setTolerance 46", () -> house.setTolerance(46));
        Check.illegal("setBaseRent 51", () -> house.setBaseRent(51));
    }

    private static void save() {
        AccentHouse house = new AccentHouse();
        String first = Check.state(house);
        Check.equal("save", house.save(0), 1);
        Check.equal("save is no change", house.undoCount(), 0);
        house.advance(9);
        String second = Check.state(house);
        Check.equal("save the other", house.save(1), 10);
        house.moveIn(0, 9, 9);
        Check.equal("restore", house.restore(0), 1);
        Check.equal("the restored state", Check.state(house), first);
        Check.equal("restore the other", house.restore(1), 10);
        Check.equal("the other state", Check.state(house), second);
        Check.equal("a state stays saved", house.restore(0), 1);
        house.restore(1);
        Check.equal("save replaces", house.save(0), 10);
        house.restore(0);
        Check.equal("what replaced it", Check.state(house), second);
        for (int wrong : new int[] {-1, 2, LOW, HIGH}) {
            Check.outside("save " + wrong, () -> house.save(wrong));
            Check.outside("restore " + wrong, () -> house.restore(wrong));
        }
    }

    private static void restore() {
        AccentHouse house = new AccentHouse();
        Check.refused("restore from an empty slot", () -> house.restore(0));
        Check.equal("a refused restore is no change", house.undoCount(), 0);
        house.save(1);
        Check.refused("restore from the other slot", () -> house.restore(0));
        house.advance(3);
        String later = Check.state(house);
        Check.equal("restore is a change", house.restore(1) + house.undoCount(), 1 + 2);
        Check.equal("undo of a restore", house.undo(), 1);
        Check.equal("the state before the restore", Check.state(house), later);
        house.undo();
        Check.equal("undo keeps the saved states", house.restore(1), 1);
        house.pay(0, 5);
        Check.equal("changes do not touch a saved state", house.restore(1), 1);
        Check.equal("its balance", house.balanceOf(0), 15);
    }

    private static void undoEach() {
        undoes("advance", house -> house.advance(20));
        undoes("moveIn", house -> house.moveIn(0, 5, 12345));
        undoes("moveOut", house -> house.moveOut(1));
        undoes("moveTo", house -> house.moveTo(1, 4));
        undoes("moveTo the same floor", house -> house.moveTo(1, 0));
        undoes("pay", house -> house.pay(1, 4));
        undoes("setLandladyVowel", house -> house.setLandladyVowel(1, 9));
        undoes("setLandladyVowel to the same", house -> house.setLandladyVowel(1, 4));
        undoes("setTolerance", house -> house.setTolerance(1));
        undoes("setTolerance to the same", house -> house.setTolerance(6));
        undoes("setBaseRent", house -> house.setBaseRent(1));
        undoes("setBaseRent to the same", house -> house.setBaseRent(5));
        undoes("restore", house -> house.restore(0));
    }

    private static void undoes(String what, ToIntFunction<AccentHouse> change) {
        AccentHouse house = new AccentHouse();
        house.save(0);
        house.pay(0, 1);
        String before = Check.state(house);
        change.applyAsInt(house);
        Check.equal(what + " is recorded", house.undoCount(), 2);
        Check.equal("undo of " + what, house.undo(), 1);
        Check.equal("undoCount after undo of " + what, house.undoCount(), 1);
        Check.equal("the state after undo of " + what, Check.state(house), before);
    }

    private static void undoTen() {
        AccentHouse house = new AccentHouse();
        for (int i = 1; i <= 13; i++) {
            house.pay(0, 1);
            Check.equal("undoCount", house.undoCount(), Math.min(i, 10));
        }
        for (int left = 9; left >= 0; left--) {
            Check.equal("undo", house.undo(), left);
            Check.equal("balance undone", house.balanceOf(0), 15 + 3 + left);
        }
        Check.refused("undo of the eleventh", () -> house.undo());
        Check.equal("undoCount at the end", house.undoCount(), 0);
        Check.equal("balance at the end", house.balanceOf(0), 18);
    }

    private static void undoOrder() {
        AccentHouse house = new AccentHouse();
        for (int i = 0; i < 11; i++) {
            house.pay(0, 1);
        }
        house.undo();
        house.undo();
        house.pay(1, 100);
        house.setTolerance(9);
        house.moveOut(0);
        Check.equal("undone changes do not count", house.undoCount(), 10);
        house.undo();
        Check.equal("the one who moved out is back", Check.name(house, 0), "ann");
        house.undo();
        Check.equal("the tolerance is back", house.tolerance(), 6);
        Check.equal("8 are left", house.undo(), 7);
        Check.equal("the payment is back", house.balanceOf(1), -2);
        Check.equal("the balance then", house.balanceOf(0), 15 + 9);
        for (int i = 0; i < 7; i++) {
            house.undo();
        }
        Check.equal("the oldest that is known", house.balanceOf(0), 15 + 2);
    }

    private static void rejectedCallsAlterNothing() {
        AccentHouse house = new AccentHouse();
        house.save(0);
        house.pay(3, 5);
        for (int i = 0; i < 2; i++) {
            house.moveIn(0, 0, 0);
        }
        String before = Check.state(house);
        Check.illegal("advance", () -> house.advance(0));
        Check.refused("moveIn", () -> house.moveIn(0, 5, 5));
        Check.illegal("moveIn", () -> house.moveIn(1, 5, -5));
        Check.outside("moveOut", () -> house.moveOut(6));
        Check.refused("moveTo", () -> house.moveTo(3, 0));
        Check.illegal("moveTo", () -> house.moveTo(3, 5));
        Check.illegal("pay", () -> house.pay(3, 0));
        Check.illegal("setLandladyVowel", () -> house.setLandladyVowel(0, 10));
        Check.illegal("setTolerance", () -> house.setTolerance(46));
        Check.illegal("setBaseRent", () -> house.setBaseRent(51));
        Check.refused("restore", () -> house.restore(1));
        Check.equal("the state", Check.state(house), before);
        Check.equal("undoCount", house.undoCount(), 3);
    }
}
