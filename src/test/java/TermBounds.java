import java.util.function.Consumer;

/** The boundary cases of 'Terms' but for the description text: accents, lodgers, floors, a day and the history. */
final class TermBounds {
    private static final String FIRST_TEXT = "house 5 6; landlady 4 4 4 4 4; lodger ann 0 20 4 4 4 4 6; "
            + "lodger bob 0 3 0 4 4 4 4; lodger cid 1 0 9 9 0 0 4; lodger dot 1 40 9 8 0 1 4; days 1";

    private TermBounds() {
    }

    static void run() {
        accents();
        distancesAndRhymes();
        lodgersAndFloors();
        leaving();
        names();
        rentsAndAverages();
        orderOfTheDay();
        rent();
        lessons();
        lessonVowels();
        dinner();
        slips();
        inspection();
        whoMustGo();
        settledBalances();
        recordedChanges();
        lastTenChanges();
        whatUndoLeaves();
        failedCalls();
        firstOfSeveral();
        newSimulator();
    }

    private static void says(String sentence) {
        Document.says(Document.TERMS, sentence);
    }

    private static void accents() {
        says("There are five vowels: 0 is a, 1 is e, 2 is i, 3 is o and 4 is u.");
        AccentHouse house = Check.with("house 5 6;landlady 0 1 2 3 4;lodger x 0 0 5 6 7 8 9");
        for (int vowel = 0; vowel < 5; vowel++) {
            Check.equal("the landlady's vowel " + vowel, house.landladyVowel(vowel), vowel);
            Check.equal("the lodger's vowel " + vowel, house.vowelOf(0, vowel), vowel + 5);
        }
        Check.outside("a sixth vowel of the landlady", () -> house.landladyVowel(5));
        Check.outside("a sixth vowel of a lodger", () -> house.vowelOf(0, 5));

        says("An accent gives each vowel a position from 0 to 9.");
        AccentHouse down = Check.with("house 0 6;landlady 0 0 0 0 0;lodger x 0 0 9 9 9 9 9;days 44");
        Check.equal("the position before the last lesson", Check.accent(down, 0), "00001");
        down.advance(1);
        Check.equal("the lowest positions", Check.accent(down, 0), "00000");
        down.advance(100);
        Check.equal("none falls below 0", Check.accent(down, 0), "00000");
        AccentHouse up = Check.with("house 0 6;landlady 9 9 9 9 9;lodger x 0 0 0 0 0 0 0;days 45");
        Check.equal("the highest positions", Check.accent(up, 0), "99999");
        up.advance(100);
        Check.equal("none rises above 9", Check.accent(up, 0), "99999");
    }

    private static void distancesAndRhymes() {
        says("The distance of two accents is the sum, over the five vowels, of the absolute difference of their positions.");
        distance("00000", "00000", 0);
        distance("00000", "99999", 45);
        distance("99999", "00000", 45);
        distance("90000", "09000", 18);
        distance("12345", "12346", 1);
        distance("12345", "02345", 1);

        says("Two accents rhyme if they differ in at most one vowel.");
        rhymes("44444", "44444", true);
        rhymes("04444", "94444", true);
        rhymes("44440", "44449", true);
        rhymes("44444", "33444", false);
        rhymes("44444", "44435", false);
        rhymes("00000", "99999", false);
    }

    private static AccentHouse two(String one, String other) {
        AccentHouse house = Check.withLines("");
        house.moveIn(0, 0, Integer.parseInt(one));
        house.moveIn(0, 0, Integer.parseInt(other));
        return house;
    }

    private static void distance(String one, String other, int due) {
        Check.equal("distance of " + one + " and " + other, two(one, other).distance(0, 1), due);
    }

    private static void rhymes(String one, String other, boolean due) {
        Check.equal("rhymes " + one + " with " + other, two(one, other).rhymes(0, 1), due);
    }

    private static void lodgersAndFloors() {
        says("The house has the floors 0 to 4, and at most 4 lodgers live on one floor.");
        for (int floor = 0; floor < 5; floor++) {
            int full = floor;
            int other = (floor + 1) % 5;
            AccentHouse house = Check.withLines("");
            for (int lodger = 0; lodger < 4; lodger++) {
                Check.equal("lodger " + lodger + " of floor " + floor, house.moveIn(floor, 0, 0), lodger);
            }
            Check.refused("a fifth on floor " + floor, () -> house.moveIn(full, 0, 0));
            house.moveIn(other, 0, 0);
            Check.refused("a fifth moves to floor " + floor, () -> house.moveTo(4, full));
            Check.equal("lodgers of floor " + floor, house.lodgersOn(floor), 4);
        }
        Check.illegal("a floor below", () -> new AccentHouse().moveTo(0, -1));
        Check.illegal("a floor above", () -> new AccentHouse().moveTo(0, 5));

        says("There are at most 12 lodgers.");
        AccentHouse full = Bounds.crowd(11);
        Check.equal("the twelfth", full.moveIn(4, 0, 0), 11);
        Check.refused("a thirteenth", () -> full.moveIn(4, 0, 0));
        Check.equal("how many there are", full.lodgerCount(), 12);

        says("They are numbered from 0 in the order in which they moved in.");
        AccentHouse order = Check.withLines(";lodger zoe 4 0 0 0 0 0 0;lodger b 0 0 9 9 9 9 9;move zoe 0;days 1");
        order.moveIn(2, 0, 0);
        Check.equal("the first of the text", Check.name(order, 0), "zoe");
        Check.equal("the second of the text", Check.name(order, 1), "b");
        Check.equal("who moved in at last", Check.name(order, 2), "a");
    }

    private static void leaving() {
        says("When a lodger leaves, the numbers of all later lodgers decrease by 1.");
        String[] left = {"bobciddot", "annciddot", "annbobdot", "annbobcid"};
        for (int lodger = 0; lodger < 4; lodger++) {
            AccentHouse house = new AccentHouse();
            house.moveOut(lodger);
            Check.equal("names after " + lodger + " left", names(house), left[lodger]);
        }
        AccentHouse house = Check.withLines(";lodger a 0 0 9 9 9 9 9;lodger b 1 0 4 4 4 4 4;lodger c 2 0 9 9 9 9 9"
                + ";lodger d 3 0 9 9 9 9 9;lodger e 4 0 4 4 4 4 4;lodger f 1 0 4 4 4 4 4;days 7");
        Check.equal("names after three were evicted", names(house), "bef");
        Check.equal("the last one's floor", house.floorOf(2), 1);
    }

    private static String names(AccentHouse house) {
        StringBuilder names = new StringBuilder();
        for (int lodger = 0; lodger < house.lodgerCount(); lodger++) {
            names.append(Check.name(house, lodger));
        }
        return names.toString();
    }

    private static void names() {
        says("Each lodger has a name of 1 to 6 letters from a to z, a floor, an accent and a balance.");
        AccentHouse house = Check.withLines(";lodger a 0 1 0 1 2 3 4;lodger zzzzzz 4 999 9 8 7 6 5");
        Check.equal("a name of one letter", Check.name(house, 0), "a");
        Check.equal("a name of six letters", Check.name(house, 1), "zzzzzz");
        Check.lineFault(";lodger zzzzzzz 0 0 0 0 0 0 0", 1, 8);
        Check.equal("their floors", house.floorOf(0) + " " + house.floorOf(1), "0 4");
        Check.equal("their accents", Check.accent(house, 0) + " " + Check.accent(house, 1), "01234 98765");
        Check.equal("their balances", house.balanceOf(0) + " " + house.balanceOf(1), "1 999");

        says("No two lodgers in the house have the same name.");
        Check.lineFault(";lodger a 0 0 0 0 0 0 0;lodger a 1 0 0 0 0 0 0", 4, 31);
        AccentHouse letters = Check.withLines(";lodger b 0 0 0 0 0 0 0");
        for (int i = 0; i < 11; i++) {
            letters.moveIn((i + 1) / 4, 0, 0);
        }
        Check.equal("twelve names", names(letters), "bacdefghijkl");

        says("A balance may be negative.");
        AccentHouse debt = Check.withLines(";lodger a 0 5 4 4 4 4 4;lodger b 0 4 4 4 4 4 4;days 1");
        Check.equal("the balance of who could pay", debt.balanceOf(0), 0);
        Check.equal("the balance of who lacked 1", debt.balanceOf(1), -1);
        debt.advance(1);
        Check.equal("a greater debt", debt.balanceOf(1), -6);
    }

    private static void rentsAndAverages() {
        says("The daily rent of a floor is the base rent plus 5 times the number of the floor.");
        AccentHouse cheap = Check.with("house 0 6;landlady 4 4 4 4 4;lodger a 0 0 4 4 4 4 4;lodger b 4 0 4 4 4 4 4;days 1");
        Check.equal("no rent on floor 0", cheap.balanceOf(0), 0);
        Check.equal("the rent of floor 4 alone", cheap.balanceOf(1), -20);
        AccentHouse dear = Check.with("house 50 6;landlady 4 4 4 4 4;lodger a 0 0 4 4 4 4 4;lodger b 4 0 4 4 4 4 4;days 1");
        Check.equal("the highest base rent", dear.balanceOf(0), -50);
        Check.equal("the highest rent", dear.balanceOf(1), -70);

        says("The average of a floor gives each vowel the sum of the positions of that vowel over all lodgers"
                + " of the floor, divided by the number of these lodgers.");
        AccentHouse house = Check.withLines(";lodger a 2 0 9 0 9 0 1;lodger b 1 0 9 9 9 9 9;lodger c 2 0 9 0 9 4 1"
                + ";lodger d 2 0 9 0 9 4 1;lodger e 2 0 9 0 5 4 1;lodger f 3 0 0 0 0 0 0");
        average(house, 2, "90831");
        average(house, 1, "99999");
        average(house, 3, "00000");

        says("Every division truncates.");
        average(Check.withLines(";lodger a 0 0 9 1 1 3 0;lodger b 0 0 0 0 2 4 1"), 0, "40130");
        average(Check.withLines(";lodger a 0 0 1 9 0 0 2;lodger b 0 0 1 9 0 0 3;lodger c 0 0 0 8 1 2 3"), 0, "08002");
    }

    private static void average(AccentHouse house, int floor, String due) {
        StringBuilder average = new StringBuilder();
        for (int vowel = 0; vowel < 5; vowel++) {
            average.append(house.averageVowel(floor, vowel));
        }
        Check.equal("average of floor " + floor, average.toString(), due);
    }

    /** The house on the day before its inspections, empty, without tolerance. */
    private static AccentHouse sixthDay() {
        return Check.with("house 5 0;landlady 4 4 4 4 4;days 6");
    }

    private static void orderOfTheDay() {
        says("Four things happen on a day, in this order.");
        AccentHouse rentFirst = Check.withLines(";lodger a 0 4 4 4 4 4 9;days 1");
        Check.equal("the rent is taken before the lesson", rentFirst.lessonsOf(0), 0);
        AccentHouse lessonFirst = Check.withLines(";lodger a 0 9 4 4 4 4 6;lodger b 0 0 4 4 4 4 5;days 1");
        Check.equal("the lesson is given before dinner", lessonFirst.slipsOf(0) + lessonFirst.slipsOf(1), 0);
        AccentHouse dinnerFirst = sixthDay();
        dinnerFirst.setTolerance(3);
        dinnerFirst.moveIn(0, 0, 44422);
        dinnerFirst.moveIn(0, 999, 44444);
        Check.equal("a slip before the inspection saves", dinnerFirst.advance(1), 0);
        Check.equal("the accent that is tolerated", Check.accent(dinnerFirst, 0), "44432");
        AccentHouse spoilt = sixthDay();
        spoilt.moveIn(0, 0, 44445);
        spoilt.moveIn(0, 999, 99995);
        Check.equal("a slip before the inspection harms", spoilt.advance(1), 1);
    }

    private static void rent() {
        says("1. Rent: the balance of each lodger decreases by the daily rent of the lodger's floor.");
        AccentHouse house = Check.withLines("");
        for (int i = 0; i < 12; i++) {
            house.moveIn(i % 5, i * 10, 44444);
        }
        house.advance(1);
        for (int i = 0; i < 12; i++) {
            Check.equal("the balance of " + i, house.balanceOf(i), i * 10 - 5 - 5 * (i % 5));
        }
        house.advance(1);
        Check.equal("the balance of a debtor", house.balanceOf(4), 40 - 50);
        AccentHouse empty = Check.withLines(";days 1");
        Check.equal("no rent of an empty house", empty.totalCharged(), 0);
    }

    private static void lessons() {
        says("2. Lessons: each lodger whose balance is not negative now takes a lesson.");
        AccentHouse house = Check.withLines(";lodger a 0 6 0 4 4 4 4;lodger b 1 10 0 4 4 4 4;lodger c 2 14 0 4 4 4 4"
                + ";lodger d 3 999 0 4 4 4 4;days 1");
        int[] balances = {1, 0, -1, 979};
        int[] lessons = {1, 1, 0, 1};
        for (int i = 0; i < 4; i++) {
            Check.equal("the balance of " + i, house.balanceOf(i), balances[i]);
            Check.equal("the lessons of " + i, house.lessonsOf(i), lessons[i]);
            Check.equal("the position of " + i, house.vowelOf(i, 0), lessons[i]);
        }

        says("A lodger with the accent of the landlady takes no lesson.");
        AccentHouse same = Check.withLines(";lodger a 0 99 4 4 4 4 4;lodger b 1 99 4 4 4 4 3;days 1");
        Check.equal("the lessons with her accent", same.lessonsOf(0), 0);
        Check.equal("her accent is kept", Check.accent(same, 0), "44444");
        Check.equal("a lesson with one vowel off by 1", same.lessonsOf(1), 1);
        same.advance(1);
        Check.equal("none when it is learnt", same.lessonsOf(1), 1);
    }

    /** The accent after a day's lesson of a lodger alone; the landlady's is 44444. */
    private static String learnt(String accent) {
        AccentHouse house = Check.withLines("");
        house.moveIn(0, 999, Integer.parseInt(accent));
        house.advance(1);
        return Check.accent(house, 0);
    }

    private static void lessonVowels() {
        says("The lesson trains the vowel whose position differs most from that of the landlady.");
        Check.equal("the last differs most", learnt("33339"), "33338");
        Check.equal("the first differs most", learnt("95555"), "85555");
        Check.equal("one below differs most", learnt("77077"), "77177");
        Check.equal("one differs at all", learnt("44454"), "44444");

        says("If several vowels differ equally, the lesson trains the one with the smallest number.");
        Check.equal("all differ equally", learnt("99999"), "89999");
        Check.equal("below and above, the first below", learnt("40844"), "41844");
        Check.equal("below and above, the first above", learnt("44480"), "44470");
        Check.equal("two behind one that differs less", learnt("56644"), "55644");
        Check.equal("the last two", learnt("44466"), "44456");

        says("The position of that vowel moves by 1 towards that of the landlady.");
        Check.equal("down from 9", learnt("44449"), "44448");
        Check.equal("up from 0", learnt("44440"), "44441");
        Check.equal("down to hers", learnt("44445"), "44444");
        Check.equal("up to hers", learnt("44443"), "44444");
    }

    private static void dinner() {
        says("3. Dinner: on each floor with at least two lodgers, each of them slips.");
        AccentHouse house = Check.withLines(";lodger a 0 0 9 9 9 9 9;lodger b 1 0 9 4 4 4 4;lodger c 1 99 0 4 4 4 4"
                + ";lodger d 4 0 9 4 4 4 4;lodger e 4 0 0 4 4 4 4;lodger f 4 0 9 4 4 4 4;lodger g 4 0 0 4 4 4 4;days 1");
        int[] slips = {0, 1, 1, 1, 1, 1, 1};
        for (int i = 0; i < slips.length; i++) {
            Check.equal("the slips of " + i, house.slipsOf(i), slips[i]);
        }
        Check.equal("the accent of one alone", Check.accent(house, 0), "99999");
        house.moveTo(0, 1);
        house.moveTo(2, 0);
        house.advance(1);
        Check.equal("slips with another one", house.slipsOf(0), 1);
        Check.equal("no slip when left alone", house.slipsOf(2), 1);

        says("The average of the floor is computed once, from the accents after the lessons.");
        AccentHouse after = Check.withLines(";lodger a 0 99 4 4 4 4 6;lodger b 0 0 4 4 4 4 6;days 1");
        Check.equal("who learnt has the average of 5", after.slipsOf(0), 0);
        Check.equal("who did not learn slips to it", Check.accent(after, 1), "44445");
        AccentHouse once = Check.with("house 0 0;landlady 9 9 9 9 9;lodger a 4 0 0 0 0 0 0;lodger b 4 0 0 0 0 0 2;days 1");
        Check.equal("the first slips to the average of 1", Check.accent(once, 0), "00001");
        Check.equal("so does the second", Check.accent(once, 1), "00001");

        says("A lodger whose accent equals the average does not slip.");
        AccentHouse equal = Check.withLines(";lodger a 0 0 4 4 4 4 4;lodger b 0 0 4 4 4 4 4;lodger c 1 0 4 4 4 4 0"
                + ";lodger d 1 0 4 4 4 4 1;days 1");
        Check.equal("both equal it", equal.slipsOf(0) + equal.slipsOf(1), 0);
        Check.equal("one equals the truncated average", equal.slipsOf(2), 0);
        Check.equal("the other slips", equal.slipsOf(3), 1);
        Check.equal("the other's accent", Check.accent(equal, 3), "44440");
    }

    /** The accents of two lodgers in debt after a dinner of both. */
    private static String dined(String one, String other) {
        AccentHouse house = two(one, other);
        house.advance(1);
        return Check.accent(house, 0) + " " + Check.accent(house, 1);
    }

    private static void slips() {
        says("A lodger slips in the vowel whose position differs most from the average.");
        Check.equal("the last", dined("55559", "55555"), "55558 55556");
        Check.equal("the first", dined("90004", "00000"), "80004 10000");
        Check.equal("another one for each", dined("30000", "03000"), "20000 02000");

        says("If several vowels differ equally, the lodger slips in the one with the smallest number.");
        Check.equal("all differ equally", dined("88888", "00000"), "78888 10000");
        Check.equal("above and below", dined("44084", "44804"), "44184 44704");
        Check.equal("behind one that differs less", dined("46088", "44444"), "46188 44344");

        says("The position of that vowel moves by 1 towards the average.");
        Check.equal("from 9 and 0", dined("00900", "00000"), "00800 00100");
        Check.equal("to the average", dined("00020", "00000"), "00010 00010");
        Check.equal("to the truncated average alone", dined("00010", "00000"), "00000 00000");
    }

    private static void inspection() {
        says("4. Inspection: the day counter increases by 1. If the day counter is a multiple of 7 now,"
                + " the landlady evicts every lodger who must go.");
        AccentHouse house = Check.with("house 5 0;landlady 0 0 0 0 0");
        for (int day = 1; day <= 28; day++) {
            house.moveIn(day % 5, 0, 99999);
            int due = day % 7 == 0 ? 7 : 0;
            Check.equal("evicted on day " + day, house.advance(1), due);
            Check.equal("the counter on day " + day, house.day(), day);
        }
        AccentHouse all = Check.with("house 5 0;landlady 0 0 0 0 0;days 6");
        for (int i = 0; i < 12; i++) {
            all.moveIn(i / 4, 0, 99999);
        }
        Check.equal("all are evicted", all.advance(1), 12);
        Check.equal("nobody is left", all.lodgerCount(), 0);
    }

    /** How many are evicted of one lodger who moves in before an inspection that tolerates a distance of 4. */
    private static int evicted(int payment, String accent) {
        AccentHouse house = sixthDay();
        house.setTolerance(4);
        house.moveIn(0, payment, Integer.parseInt(accent));
        return house.advance(1);
    }

    private static void whoMustGo() {
        says("A lodger must go if the balance is negative, the distance of the lodger's accent and the landlady's"
                + " accent is greater than the tolerance, and these two accents do not rhyme.");
        Check.equal("a balance of -1", evicted(4, "44455"), 0);
        Check.equal("a balance of -1, a distance of 5", evicted(4, "44427"), 1);
        Check.equal("a balance of 0, a distance of 25", evicted(5, "99999"), 0);
        Check.equal("a balance of -5, a distance of 4", evicted(0, "44426"), 0);
        Check.equal("a balance of -5, a distance of 5 in two vowels", evicted(0, "34448"), 1);
        Check.equal("a balance of -5, a distance of 5 in one vowel", evicted(0, "44449"), 0);
        AccentHouse none = sixthDay();
        none.moveIn(0, 0, 44444);
        none.moveIn(1, 0, 44443);
        none.moveIn(2, 0, 44433);
        Check.equal("without tolerance, a distance of 0, of 1, and of 2", none.advance(1), 1);
        Check.equal("who stays", names(none), "ab");
        AccentHouse all = Check.with("house 5 45;landlady 0 0 0 0 0;lodger a 0 0 9 9 9 9 9;days 7");
        Check.equal("the greatest tolerance", all.evictions(), 0);
        all.setTolerance(44);
        Check.equal("a distance of 45 beyond a tolerance of 44", all.advance(7), 1);
    }

    private static void settledBalances() {
        says("A lodger who is evicted or moves out leaves the house with the balance of that moment.");
        AccentHouse house = sixthDay();
        house.moveIn(1, 3, 99999);
        house.advance(1);
        Check.equal("evicted behind the day's rent", house.settled(), 3 - 10);
        house.moveIn(1, 30, 99999);
        house.advance(1);
        house.pay(0, 7);
        Check.equal("moves out behind rent and payment", house.moveOut(0), 27);

        says("That balance, positive or negative, is added to the settled amount.");
        Check.equal("after both", house.settled(), -7 + 27);
        house.moveIn(0, 0, 0);
        house.moveOut(0);
        Check.equal("a balance of 0", house.settled(), 20);
        house.moveIn(4, 0, 0);
        house.advance(1);
        house.moveOut(0);
        Check.equal("a negative one", house.settled(), -5);
    }

    private static void recordedChanges() {
        says("The methods in the section \"changes\" record a change whenever they return normally, even if they alter nothing.");
        AccentHouse house = new AccentHouse();
        house.save(0);
        records(house, "moveTo the same floor", h -> h.moveTo(1, 0));
        records(house, "setLandladyVowel to the same", h -> h.setLandladyVowel(4, 4));
        records(house, "setTolerance to the same", h -> h.setTolerance(6));
        records(house, "setBaseRent to the same", h -> h.setBaseRent(5));
        records(house, "restore of the same", h -> h.restore(0));
        AccentHouse other = Check.withLines("");
        records(other, "moveIn", h -> h.moveIn(0, 0, 0));
        records(other, "pay", h -> h.pay(0, 1));
        records(other, "moveOut", h -> h.moveOut(0));
        records(other, "advance of an empty house", h -> h.advance(1));
        AccentHouse quiet = new AccentHouse();
        quiet.save(1);
        quiet.append(0, 0, 0, 0, 0);
        quiet.writeFloor(0);
        quiet.balanceAfter(0, 100);
        quiet.paymentToStay(2);
        Check.equal("other methods record nothing", quiet.undoCount(), 0);

        says("Every change can be undone, and two states of the house can be saved.");
        Check.equal("undo of advance", other.undo() + other.day(), 3);
        Check.equal("undo of moveOut", other.undo() + other.lodgerCount(), 2 + 1);
        Check.equal("undo of pay", other.undo() + other.balanceOf(0), 1);
        Check.equal("undo of moveIn", other.undo() + other.lodgerCount(), 0);
        quiet.advance(1);
        quiet.save(0);
        Check.equal("the state of slot 0", quiet.restore(0), 2);
        Check.equal("the state of slot 1", quiet.restore(1), 1);
        Check.outside("a third state", () -> quiet.save(2));
    }

    private static void records(AccentHouse house, String what, Consumer<AccentHouse> change) {
        int before = house.undoCount();
        change.accept(house);
        Check.equal("undoCount after " + what, house.undoCount(), before + 1);
    }

    private static void lastTenChanges() {
        says("The last 10 recorded changes can be undone.");
        AccentHouse ten = new AccentHouse();
        AccentHouse eleven = new AccentHouse();
        eleven.setTolerance(45);
        for (int i = 0; i < 10; i++) {
            ten.pay(0, 1);
            eleven.pay(0, 1);
        }
        for (int left = 9; left >= 0; left--) {
            Check.equal("undo of 10", ten.undo(), left);
            Check.equal("undo of 11", eleven.undo(), left);
            Check.equal("the balance then", ten.balanceOf(0), 15 + left);
        }
        Check.refused("an eleventh undo of 10", () -> ten.undo());
        Check.refused("an eleventh undo of 11", () -> eleven.undo());
        Check.equal("all 10 are undone", Check.state(ten), Check.state(new AccentHouse()));
        Check.equal("the first of 11 stays", eleven.tolerance(), 45);
        // Many times round: what is kept for the oldest changes is used again.
        for (int i = 0; i < 37; i++) {
            ten.pay(0, 1);
        }
        for (int i = 0; i < 10; i++) {
            ten.undo();
        }
        Check.equal("the balance before the last 10 of 37", ten.balanceOf(0), 15 + 27);
    }

    private static void whatUndoLeaves() {
        says("Undoing a change restores the state before it, except for the input buffer, the output buffer,"
                + " the reported error and the saved states.");
        AccentHouse house = new AccentHouse();
        String before = Check.state(house);
        house.save(1);
        house.advance(6);
        Check.feed(house, "x");
        Check.illegal("a text with an error", () -> house.load(1));
        Check.feed(house, "cid");
        house.writeFloor(0);
        house.save(0);
        house.save(1);
        house.undo();
        Check.equal("the state", Check.state(house), before);
        Check.equal("evictions are undone", house.evictions(), 0);
        Check.equal("the input buffer is kept", house.findByName(), 2);
        Check.equal("its length is kept", house.append(0, 0, 0, 0, 0), 40);
        Check.equal("the output buffer is kept", Check.wholeOutput(house), "ann,bob");
        Check.equal("the reported error is kept", house.errorKind() + " " + house.errorOffset(), "1 0");
        Check.equal("slot 0 is kept", house.restore(0), 7);
        Check.equal("slot 1 is kept", house.restore(1), 7);
    }

    /** A house in which each kind of thing that a failed call might alter holds something. */
    private static AccentHouse furnished() {
        AccentHouse house = new AccentHouse();
        house.moveIn(0, 10, 12345);
        house.moveIn(0, 10, 12345);
        house.save(0);
        house.advance(1);
        Check.illegal("a text with an error", () -> Check.load(house, Check.HEADER + ";pay zoe 1"));
        Check.feed(house, "bob");
        house.writeLodger(2);
        return house;
    }

    private static void failedCalls() {
        says("A method that throws an exception alters nothing, unless its description says otherwise.");
        fails("load", house -> house.load(21));
        fails("rentOf", house -> house.rentOf(5));
        fails("nameLetter", house -> house.nameLetter(0, 3));
        fails("lodgerOn", house -> house.lodgerOn(0, 4));
        fails("averageVowel", house -> house.averageVowel(2, 0));
        fails("balanceAfter, lodger", house -> house.balanceAfter(6, 1));
        fails("balanceAfter, days", house -> house.balanceAfter(0, 101));
        fails("distanceAfter, days", house -> house.distanceAfter(0, -1));
        fails("daysToEviction", house -> house.daysToEviction(-1));
        fails("paymentToStay", house -> house.paymentToStay(6));
        fails("advance, days", house -> house.advance(0));
        fails("moveIn, floor", house -> house.moveIn(5, 1, 1));
        fails("moveIn, payment", house -> house.moveIn(1, 1000, 1));
        fails("moveIn, accent", house -> house.moveIn(1, 1, 100000));
        fails("moveIn, full floor", house -> house.moveIn(0, 1, 1));
        fails("moveOut", house -> house.moveOut(6));
        fails("moveTo, lodger", house -> house.moveTo(6, 1));
        fails("moveTo, floor", house -> house.moveTo(0, 5));
        fails("moveTo, full floor", house -> house.moveTo(2, 0));
        fails("pay, lodger", house -> house.pay(6, 1));
        fails("pay, amount", house -> house.pay(0, 1000));
        fails("setLandladyVowel, vowel", house -> house.setLandladyVowel(5, 1));
        fails("setLandladyVowel, position", house -> house.setLandladyVowel(0, 10));
        fails("setTolerance", house -> house.setTolerance(46));
        fails("setBaseRent", house -> house.setBaseRent(51));
        fails("restore, slot", house -> house.restore(2));
        fails("restore, empty slot", house -> house.restore(1));
        fails("save", house -> house.save(2));
        fails("writeLodger", house -> house.writeLodger(6));
        fails("writeFloor", house -> house.writeFloor(5));
        fails("outputCharacter", house -> house.outputCharacter(99));
        AccentHouse none = furnished();
        for (int left = 2; left >= 0; left--) {
            none.undo();
        }
        String before = Check.everything(none);
        Check.refused("undo", () -> none.undo());
        Check.equal("all after undo", Check.everything(none), before);
    }

    private static void fails(String what, Consumer<AccentHouse> call) {
        AccentHouse house = furnished();
        String before = Check.everything(house);
        String thrown = "nothing";
        try {
            call.accept(house);
        } catch (RuntimeException e) {
            thrown = "an exception";
        }
        Check.equal(what + " throws", thrown, "an exception");
        Check.equal("all after " + what, Check.everything(house), before);
        Check.equal("the input after " + what, house.append(0, 0, 0, 0, 0), 40);
        Check.equal("undo after " + what, house.undo(), 2);
        Check.equal("the state then", house.day(), 1);
        Check.equal("the saved state after " + what, house.restore(0) + house.lodgerCount(), 1 + 6);
        Check.refused("the empty slot after " + what, () -> house.restore(1));
    }

    private static void firstOfSeveral() {
        says("If several exceptions apply to one call, the method throws the one that is listed first.");
        AccentHouse house = Check.withLines(";lodger a 0 0 0 0 0 0 0;lodger b 0 0 0 0 0 0 0;lodger c 0 0 0 0 0 0 0"
                + ";lodger d 0 0 0 0 0 0 0");
        Check.feed(house, "?");
        Check.outside("load", () -> house.load(21));
        Check.outside("averageVowel", () -> house.averageVowel(1, 5));
        Check.outside("balanceAfter", () -> house.balanceAfter(4, 101));
        Check.outside("distanceAfter", () -> house.distanceAfter(-1, -1));
        Check.illegal("moveIn, payment and full floor", () -> house.moveIn(0, -1, 0));
        Check.illegal("moveIn, accent and full floor", () -> house.moveIn(0, 0, 100000));
        Check.outside("moveTo", () -> house.moveTo(4, 5));
        Check.outside("moveTo, full floor", () -> house.moveTo(4, 0));
        Check.outside("pay", () -> house.pay(4, 0));
        Check.outside("setLandladyVowel", () -> house.setLandladyVowel(-1, 10));
        Check.outside("restore", () -> house.restore(2));
        Check.illegal("moveIn, floor and full house", () -> Bounds.crowd(12).moveIn(5, 0, 0));
        for (int i = 0; i < 99; i++) {
            house.advance(100);
        }
        Check.illegal("advance", () -> house.advance(101));
    }

    private static void newSimulator() {
        says("A new simulator is in the state that the text \"" + FIRST_TEXT + "\" describes, and its buffers are empty.");
        AccentHouse made = new AccentHouse();
        Check.equal("the state", Check.everything(made), Check.everything(Check.with(FIRST_TEXT)));
        Check.equal("the day", made.day(), 1);
        Check.outside("the input buffer", () -> made.load(1));
        Check.outside("the output buffer", () -> made.outputCharacter(0));
        Check.equal("the input buffer has room for 20", made.append(0, 0, 0, 0, 0), 20);
        made.setTolerance(45);
        Check.equal("another new one", Check.state(new AccentHouse()), Check.state(Check.with(FIRST_TEXT)));

        says("The constants: `NONE = -1`: The result of a search that finds nothing.");
        Check.equal("NONE", AccentHouse.NONE, -1);
        Check.equal("a search for no name", made.findByName(), AccentHouse.NONE);
    }
}
