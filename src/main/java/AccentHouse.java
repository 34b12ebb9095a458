/**
 * A day-by-day simulator of a boarding house whose lodgers pick up accents from each other and from
 * a strict landlady. README.md tells how to use it.
 */
public final class AccentHouse {
    public static final int NONE = -1;

    private static final int VOWELS = 5;
    private static final int HIGHEST_POSITION = 9;
    private static final int HIGHEST_ACCENT = 99999;
    private static final int FLOORS = 5;
    private static final int PLACES_ON_FLOOR = 4;
    private static final int MOST_LODGERS = 12;
    private static final int LONGEST_NAME = 6;
    private static final int MOST_DIGITS = 3;
    private static final int HIGHEST_RENT = 50;
    private static final int RENT_PER_FLOOR = 5;
    private static final int HIGHEST_TOLERANCE = 45;
    private static final int HIGHEST_PAYMENT = 999;
    private static final int MOST_DAYS = 100;
    private static final int LAST_DAY = 9999;
    private static final int WEEK = 7;
    private static final int INPUT_CAPACITY = 600;
    private static final int BYTES_PER_APPEND = 20;
    private static final int UNDO_LIMIT = 10;
    private static final int SLOTS = 2;
    private static final String ALPHABET = "abcdefghijklmnopqrstuvwxyz";
    private static final String FIRST_TEXT =
            "house 5 6; landlady 4 4 4 4 4; lodger ann 0 20 4 4 4 4 6; lodger bob 0 3 0 4 4 4 4; lodger cid 1 0 9 9 0 0 4; lodger dot 1 40 9 8 0 1 4; days 1";

    private final byte[] input = new byte[INPUT_CAPACITY];
    private int inputLength;
    private final StringBuilder output = new StringBuilder();
    private final Parser parser = new Parser(input);
    private int reportedKind;
    private int reportedOffset = NONE;

    private final House house = new House();
    // Forecasts are tried out here, so that the house itself stays as it is.
    private final House trial = new House();
    private final History history = new History();
    private final House[] saved = new House[SLOTS];
    private final boolean[] isSaved = new boolean[SLOTS];

    public AccentHouse() {
        for (int slot = 0; slot < SLOTS; slot++) {
            saved[slot] = new House();
        }
        // The buffer stays empty for the callers: its length remains 0.
        for (int i = 0; i < FIRST_TEXT.length() && i < INPUT_CAPACITY; i++) {
            input[i] = (byte) FIRST_TEXT.charAt(i);
        }
        parser.read(FIRST_TEXT.length());
        house.copyFrom(parser.house);
    }

    // ---- input

    public int append(int a, int b, int c, int d, int e) throws IllegalStateException {
        if (inputLength + BYTES_PER_APPEND > INPUT_CAPACITY) {
            throw new IllegalStateException("the input buffer is full");
        }
        appendWord(a);
        appendWord(b);
        appendWord(c);
        appendWord(d);
        appendWord(e);
        return inputLength;
    }

    private void appendWord(int word) {
        for (int shift = 24; shift >= 0 && inputLength < INPUT_CAPACITY; shift -= 8) {
            input[inputLength] = (byte) (word >>> shift);
            inputLength++;
        }
    }

    public int load(int length) throws IndexOutOfBoundsException, IllegalArgumentException {
        if (length < 0 || length > inputLength) {
            throw new IndexOutOfBoundsException("the buffer has no such length");
        }
        parser.read(length);
        inputLength = 0;
        reportedKind = parser.errorKind;
        reportedOffset = parser.errorOffset;
        if (reportedKind != 0) {
            throw new IllegalArgumentException("the text has an error");
        }
        house.copyFrom(parser.house);
        history.clear();
        for (int slot = 0; slot < SLOTS; slot++) {
            isSaved[slot] = false;
        }
        return house.count;
    }

    public int errorKind() {
        return reportedKind;
    }

    public int errorOffset() {
        return reportedOffset;
    }

    // ---- the house

    public int day() {
        return house.day;
    }

    public int lodgerCount() {
        return house.count;
    }

    public int baseRent() {
        return house.baseRent;
    }

    public int tolerance() {
        return house.tolerance;
    }

    public int rentOf(int floor) throws IndexOutOfBoundsException {
        requireFloor(floor);
        return house.dailyRent(floor);
    }

    public int landladyVowel(int vowel) throws IndexOutOfBoundsException {
        requireVowel(vowel);
        return house.landlady.positions[vowel];
    }

    public int daysToInspection() {
        return WEEK - house.day % WEEK;
    }

    public int evictions() {
        return house.evicted;
    }

    public int undoCount() {
        return history.kept;
    }

    // ---- lodgers

    public int floorOf(int lodger) throws IndexOutOfBoundsException {
        return requireLodger(lodger).floor;
    }

    public int balanceOf(int lodger) throws IndexOutOfBoundsException {
        return requireLodger(lodger).balance;
    }

    public int vowelOf(int lodger, int vowel) throws IndexOutOfBoundsException {
        Lodger asked = requireLodger(lodger);
        requireVowel(vowel);
        return asked.accent.positions[vowel];
    }

    public int lessonsOf(int lodger) throws IndexOutOfBoundsException {
        return requireLodger(lodger).lessons;
    }

    public int slipsOf(int lodger) throws IndexOutOfBoundsException {
        return requireLodger(lodger).slips;
    }

    public int daysStayed(int lodger) throws IndexOutOfBoundsException {
        return house.day - requireLodger(lodger).arrivalDay;
    }

    public int nameLength(int lodger) throws IndexOutOfBoundsException {
        return requireLodger(lodger).name.length();
    }

    public char nameLetter(int lodger, int index) throws IndexOutOfBoundsException {
        String name = requireLodger(lodger).name;
        if (index < 0 || index >= name.length()) {
            throw new IndexOutOfBoundsException("the name has no such letter");
        }
        return name.charAt(index);
    }

    public int findByName() {
        int from = 0;
        int to = inputLength;
        while (from < to && input[from] == ' ') {
            from++;
        }
        while (to > from && input[to - 1] == ' ') {
            to--;
        }
        return house.numberOf(input, from, to);
    }

    // ---- floors

    public int lodgersOn(int floor) throws IndexOutOfBoundsException {
        requireFloor(floor);
        return house.crowdOn(floor);
    }

    public int lodgerOn(int floor, int place) throws IndexOutOfBoundsException {
        requireFloor(floor);
        int found = house.numberAt(floor, place);
        if (found == NONE) {
            throw new IndexOutOfBoundsException("the floor has no such place");
        }
        return found;
    }

    public int averageVowel(int floor, int vowel) throws IndexOutOfBoundsException, IllegalStateException {
        requireFloor(floor);
        requireVowel(vowel);
        if (house.crowdOn(floor) == 0) {
            throw new IllegalStateException("no lodger lives on the floor");
        }
        return house.averagePosition(floor, vowel);
    }

    // ---- comparing accents

    public int distanceToLandlady(int lodger) throws IndexOutOfBoundsException {
        return requireLodger(lodger).accent.distanceTo(house.landlady);
    }

    public int distance(int first, int second) throws IndexOutOfBoundsException {
        Lodger one = requireLodger(first);
        Lodger other = requireLodger(second);
        return one.accent.distanceTo(other.accent);
    }

    public boolean rhymes(int first, int second) throws IndexOutOfBoundsException {
        Lodger one = requireLodger(first);
        Lodger other = requireLodger(second);
        return one.accent.rhymesWith(other.accent);
    }

    public boolean rhymesWithLandlady(int lodger) throws IndexOutOfBoundsException {
        return requireLodger(lodger).accent.rhymesWith(house.landlady);
    }

    public int rhymeCount(int lodger) throws IndexOutOfBoundsException {
        Lodger asked = requireLodger(lodger);
        int rhyming = 0;
        for (int i = 0; i < house.count; i++) {
            if (i != lodger && house.lodgers[i].accent.rhymesWith(asked.accent)) {
                rhyming++;
            }
        }
        return rhyming;
    }

    public int closestTo(int lodger) throws IndexOutOfBoundsException {
        Lodger asked = requireLodger(lodger);
        int closest = NONE;
        int smallest = 0;
        for (int i = 0; i < house.count; i++) {
            int gap = house.lodgers[i].accent.distanceTo(asked.accent);
            if (i != lodger && (closest == NONE || gap < smallest)) {
                closest = i;
                smallest = gap;
            }
        }
        return closest;
    }

    public int lessonVowel(int lodger) throws IndexOutOfBoundsException {
        return requireLodger(lodger).accent.farthestVowel(house.landlady);
    }

    public int slipVowel(int lodger) throws IndexOutOfBoundsException {
        Lodger asked = requireLodger(lodger);
        // A lodger alone on a floor is the floor's average, so no vowel differs and none is answered.
        house.computeAverage(asked.floor);
        return asked.accent.farthestVowel(house.average);
    }

    public boolean mustGo(int lodger) throws IndexOutOfBoundsException {
        return house.mustLeave(requireLodger(lodger));
    }

    public double meanDistance() {
        if (house.count == 0) {
            return 0.0;
        }
        int sum = 0;
        for (int i = 0; i < house.count; i++) {
            sum += house.lodgers[i].accent.distanceTo(house.landlady);
        }
        return (double) sum / (double) house.count;
    }

    public float rhymingShare() {
        if (house.count == 0) {
            return 0.0f;
        }
        int rhyming = 0;
        for (int i = 0; i < house.count; i++) {
            if (house.lodgers[i].accent.rhymesWith(house.landlady)) {
                rhyming++;
            }
        }
        return (float) rhyming / (float) house.count;
    }

    // ---- forecasts

    public int balanceAfter(int lodger, int days) throws IndexOutOfBoundsException, IllegalArgumentException {
        requireLodger(lodger);
        requireRange(days, 0, MOST_DAYS);
        Lodger watched = startTrial(lodger);
        runTrial(watched, days);
        return watched.balance;
    }

    public int distanceAfter(int lodger, int days) throws IndexOutOfBoundsException, IllegalArgumentException {
        requireLodger(lodger);
        requireRange(days, 0, MOST_DAYS);
        Lodger watched = startTrial(lodger);
        int evictionDay = runTrial(watched, days);
        return evictionDay == NONE ? watched.accent.distanceTo(trial.landlady) : NONE;
    }

    public int daysToEviction(int lodger) throws IndexOutOfBoundsException {
        requireLodger(lodger);
        return runTrial(startTrial(lodger), MOST_DAYS);
    }

    public int paymentToStay(int lodger) throws IndexOutOfBoundsException {
        Lodger payer = requireLodger(lodger);
        if (staysWith(lodger, 0)) {
            return 0;
        }
        int rent = house.dailyRent(payer.floor);
        int days = daysToInspection();
        // A higher payment makes a difference only where it covers the rent of one more day, so the
        // smallest one that helps covers some number of days exactly.
        for (int covered = 1; covered <= days; covered++) {
            int payment = covered * rent - payer.balance;
            if (payment >= 1 && payment <= HIGHEST_PAYMENT && staysWith(lodger, payment)) {
                return payment;
            }
        }
        return NONE;
    }

    private boolean staysWith(int lodger, int payment) {
        Lodger watched = startTrial(lodger);
        watched.balance += payment;
        return runTrial(watched, daysToInspection()) == NONE;
    }

    private Lodger startTrial(int lodger) {
        trial.copyFrom(house);
        return trial.lodgers[lodger];
    }

    /** Lets days pass until the lodger is evicted; answers the number of that day, or NONE. */
    private int runTrial(Lodger watched, int days) {
        for (int passed = 1; passed <= days; passed++) {
            trial.passDay();
            if (!trial.houses(watched)) {
                return passed;
            }
        }
        return NONE;
    }

    // ---- accounts

    public int totalPaid() {
        return house.paid;
    }

    public int totalCharged() {
        return house.charged;
    }

    public int settled() {
        return house.settledAmount;
    }

    public int ledgerDifference() {
        int balances = 0;
        for (int i = 0; i < house.count; i++) {
            balances += house.lodgers[i].balance;
        }
        return balances + house.settledAmount - house.paid + house.charged;
    }

    // ---- changes

    public int advance(int days) throws IllegalArgumentException, IllegalStateException {
        requireRange(days, 1, MOST_DAYS);
        if (house.day + days > LAST_DAY) {
            throw new IllegalStateException("the day counter would exceed 9999");
        }
        history.remember(house);
        int before = house.evicted;
        for (int passed = 0; passed < days; passed++) {
            house.passDay();
        }
        return house.evicted - before;
    }

    public int moveIn(int floor, int payment, int accent) throws IllegalArgumentException, IllegalStateException {
        requireRange(floor, 0, FLOORS - 1);
        requireRange(payment, 0, HIGHEST_PAYMENT);
        requireRange(accent, 0, HIGHEST_ACCENT);
        if (house.count >= MOST_LODGERS) {
            throw new IllegalStateException("the house has 12 lodgers");
        }
        requirePlace(floor, null);
        history.remember(house);
        return house.receive(house.unusedLetter(), floor, payment, accent);
    }

    public int moveOut(int lodger) throws IndexOutOfBoundsException {
        int balance = requireLodger(lodger).balance;
        history.remember(house);
        house.dismiss(lodger);
        return balance;
    }

    public int moveTo(int lodger, int floor)
            throws IndexOutOfBoundsException, IllegalArgumentException, IllegalStateException {
        Lodger mover = requireLodger(lodger);
        requireRange(floor, 0, FLOORS - 1);
        requirePlace(floor, mover);
        history.remember(house);
        int previous = mover.floor;
        mover.floor = floor;
        return previous;
    }

    public int pay(int lodger, int amount) throws IndexOutOfBoundsException, IllegalArgumentException {
        Lodger payer = requireLodger(lodger);
        requireRange(amount, 1, HIGHEST_PAYMENT);
        history.remember(house);
        house.takePayment(payer, amount);
        return payer.balance;
    }

    public int setLandladyVowel(int vowel, int position) throws IndexOutOfBoundsException, IllegalArgumentException {
        requireVowel(vowel);
        requireRange(position, 0, HIGHEST_POSITION);
        history.remember(house);
        int previous = house.landlady.positions[vowel];
        house.landlady.positions[vowel] = position;
        return previous;
    }

    public int setTolerance(int tolerance) throws IllegalArgumentException {
        requireRange(tolerance, 0, HIGHEST_TOLERANCE);
        history.remember(house);
        int previous = house.tolerance;
        house.tolerance = tolerance;
        return previous;
    }

    public int setBaseRent(int rent) throws IllegalArgumentException {
        requireRange(rent, 0, HIGHEST_RENT);
        history.remember(house);
        int previous = house.baseRent;
        house.baseRent = rent;
        return previous;
    }

    public int restore(int slot) throws IndexOutOfBoundsException, IllegalStateException {
        requireSlot(slot);
        if (!isSaved[slot]) {
            throw new IllegalStateException("nothing is saved in the slot");
        }
        history.remember(house);
        house.copyFrom(saved[slot]);
        return house.day;
    }

    // ---- undo and saved states

    public int undo() throws IllegalStateException {
        if (history.kept == 0) {
            throw new IllegalStateException("there is no change to undo");
        }
        history.takeBack(house);
        return history.kept;
    }

    public int save(int slot) throws IndexOutOfBoundsException {
        requireSlot(slot);
        saved[slot].copyFrom(house);
        isSaved[slot] = true;
        return house.day;
    }

    // ---- output

    public int writeLodger(int lodger) throws IndexOutOfBoundsException {
        Lodger written = requireLodger(lodger);
        output.setLength(0);
        output.append(written.name).append(' ');
        for (int vowel = 0; vowel < VOWELS; vowel++) {
            output.append(written.accent.positions[vowel]);
        }
        output.append(' ').append(written.balance);
        return output.length();
    }

    public int writeFloor(int floor) throws IndexOutOfBoundsException {
        requireFloor(floor);
        output.setLength(0);
        for (int i = 0; i < house.count; i++) {
            if (house.lodgers[i].floor == floor) {
                if (output.length() > 0) {
                    output.append(',');
                }
                output.append(house.lodgers[i].name);
            }
        }
        return output.length();
    }

    public char outputCharacter(int index) throws IndexOutOfBoundsException {
        if (index < 0 || index >= output.length()) {
            throw new IndexOutOfBoundsException("the output has no such character");
        }
        return output.charAt(index);
    }

    // ---- what the calls require of their arguments

    private Lodger requireLodger(int lodger) {
        if (lodger < 0 || lodger >= house.count) {
            throw new IndexOutOfBoundsException("there is no such lodger");
        }
        return house.lodgers[lodger];
    }

    private void requireFloor(int floor) {
        if (floor < 0 || floor >= FLOORS) {
            throw new IndexOutOfBoundsException("there is no such floor");
        }
    }

    private void requireVowel(int vowel) {
        if (vowel < 0 || vowel >= VOWELS) {
            throw new IndexOutOfBoundsException("there is no such vowel");
        }
    }

    private void requireSlot(int slot) {
        if (slot < 0 || slot >= SLOTS) {
            throw new IndexOutOfBoundsException("there is no such slot");
        }
    }

    private void requireRange(int value, int low, int high) {
        if (value < low || value > high) {
            throw new IllegalArgumentException("an argument is out of range");
        }
    }

    private void requirePlace(int floor, Lodger mover) {
        if (house.isFullFor(floor, mover)) {
            throw new IllegalStateException("the floor is full");
        }
    }

    /** The positions of the five vowels. */
    private static final class Accent {
        final int[] positions = new int[VOWELS];

        void copyFrom(Accent other) {
            System.arraycopy(other.positions, 0, positions, 0, VOWELS);
        }

        /** Takes the positions from the digits of a number, the first vowel from the highest digit. */
        void setDigits(int digits) {
            int rest = digits;
            for (int vowel = VOWELS - 1; vowel >= 0; vowel--) {
                positions[vowel] = rest % 10;
                rest /= 10;
            }
        }

        int distanceTo(Accent other) {
            int sum = 0;
            for (int vowel = 0; vowel < VOWELS; vowel++) {
                int difference = positions[vowel] - other.positions[vowel];
                sum += difference < 0 ? -difference : difference;
            }
            return sum;
        }

        boolean rhymesWith(Accent other) {
            int differing = 0;
            for (int vowel = 0; vowel < VOWELS; vowel++) {
                if (positions[vowel] != other.positions[vowel]) {
                    differing++;
                }
            }
            return differing <= 1;
        }

        /** Answers the vowel that differs most, of several the first; NONE if the accents are equal. */
        int farthestVowel(Accent other) {
            int farthest = NONE;
            int greatest = 0;
            for (int vowel = 0; vowel < VOWELS; vowel++) {
                int difference = positions[vowel] - other.positions[vowel];
                int gap = difference < 0 ? -difference : difference;
                if (gap > greatest) {
                    farthest = vowel;
                    greatest = gap;
                }
            }
            return farthest;
        }

        /** Moves the vowel that differs most by 1 towards the goal; false if the accents are equal. */
        boolean approach(Accent goal) {
            int vowel = farthestVowel(goal);
            if (vowel == NONE) {
                return false;
            }
            positions[vowel] += positions[vowel] < goal.positions[vowel] ? 1 : -1;
            return true;
        }
    }

    private static final class Lodger {
        String name = "";
        int floor;
        int balance;
        int lessons;
        int slips;
        int arrivalDay;
        final Accent accent = new Accent();

        void copyFrom(Lodger other) {
            name = other.name;
            floor = other.floor;
            balance = other.balance;
            lessons = other.lessons;
            slips = other.slips;
            arrivalDay = other.arrivalDay;
            accent.copyFrom(other.accent);
        }

        boolean isNamed(byte[] text, int from, int to) {
            if (from < 0 || to > text.length || to - from != name.length()) {
                return false;
            }
            for (int i = 0; i < name.length(); i++) {
                if (text[from + i] != name.charAt(i)) {
                    return false;
                }
            }
            return true;
        }
    }

    /** All that a change can alter and undo restores. */
    private static final class House {
        int day;
        int baseRent;
        int tolerance;
        int evicted;
        int paid;
        int charged;
        int settledAmount;
        int count;
        final Accent landlady = new Accent();
        // The lodgers beyond the count are spare objects, used again by the next who moves in.
        final Lodger[] lodgers = new Lodger[MOST_LODGERS];
        // No part of the state: the average of the floor asked for last.
        final Accent average = new Accent();

        House() {
            for (int i = 0; i < MOST_LODGERS; i++) {
                lodgers[i] = new Lodger();
            }
        }

        void open(int rent, int tolerated) {
            day = 0;
            baseRent = rent;
            tolerance = tolerated;
            evicted = 0;
            paid = 0;
            charged = 0;
            settledAmount = 0;
            count = 0;
        }

        void copyFrom(House other) {
            day = other.day;
            baseRent = other.baseRent;
            tolerance = other.tolerance;
            evicted = other.evicted;
            paid = other.paid;
            charged = other.charged;
            settledAmount = other.settledAmount;
            count = other.count;
            landlady.copyFrom(other.landlady);
            for (int i = 0; i < count; i++) {
                lodgers[i].copyFrom(other.lodgers[i]);
            }
        }

        int dailyRent(int floor) {
            return baseRent + RENT_PER_FLOOR * floor;
        }

        int crowdOn(int floor) {
            int crowd = 0;
            for (int i = 0; i < count; i++) {
                if (lodgers[i].floor == floor) {
                    crowd++;
                }
            }
            return crowd;
        }

        /** Tells whether a floor has no place for a lodger, who is null if new in the house. */
        boolean isFullFor(int floor, Lodger mover) {
            int others = 0;
            for (int i = 0; i < count; i++) {
                if (lodgers[i] != mover && lodgers[i].floor == floor) {
                    others++;
                }
            }
            return others >= PLACES_ON_FLOOR;
        }

        int numberAt(int floor, int place) {
            int passed = 0;
            for (int i = 0; i < count; i++) {
                if (lodgers[i].floor == floor) {
                    if (passed == place) {
                        return i;
                    }
                    passed++;
                }
            }
            return NONE;
        }

        int numberOf(byte[] text, int from, int to) {
            for (int i = 0; i < count; i++) {
                if (lodgers[i].isNamed(text, from, to)) {
                    return i;
                }
            }
            return NONE;
        }

        boolean houses(Lodger wanted) {
            for (int i = 0; i < count; i++) {
                if (lodgers[i] == wanted) {
                    return true;
                }
            }
            return false;
        }

        String unusedLetter() {
            for (int i = 0; i < ALPHABET.length(); i++) {
                if (!hasLetterName(ALPHABET.charAt(i))) {
                    return ALPHABET.substring(i, i + 1);
                }
            }
            return "";
        }

        private boolean hasLetterName(char letter) {
            for (int i = 0; i < count; i++) {
                String name = lodgers[i].name;
                if (name.length() == 1 && name.charAt(0) == letter) {
                    return true;
                }
            }
            return false;
        }

        int averagePosition(int floor, int vowel) {
            int sum = 0;
            int crowd = 0;
            for (int i = 0; i < count; i++) {
                if (lodgers[i].floor == floor) {
                    sum += lodgers[i].accent.positions[vowel];
                    crowd++;
                }
            }
            return crowd == 0 ? 0 : sum / crowd;
        }

        void computeAverage(int floor) {
            for (int vowel = 0; vowel < VOWELS; vowel++) {
                average.positions[vowel] = averagePosition(floor, vowel);
            }
        }

        boolean mustLeave(Lodger lodger) {
            return lodger.balance < 0
                    && lodger.accent.distanceTo(landlady) > tolerance
                    && !lodger.accent.rhymesWith(landlady);
        }

        int receive(String name, int floor, int payment, int accentDigits) {
            if (count >= MOST_LODGERS) {
                return NONE;
            }
            Lodger newcomer = lodgers[count];
            newcomer.name = name;
            newcomer.floor = floor;
            newcomer.balance = payment;
            newcomer.lessons = 0;
            newcomer.slips = 0;
            newcomer.arrivalDay = day;
            newcomer.accent.setDigits(accentDigits);
            paid += payment;
            count++;
            return count - 1;
        }

        /** Lets a lodger leave, whose object keeps the balance of that moment until it is used again. */
        void dismiss(int lodger) {
            if (lodger < 0 || lodger >= count) {
                return;
            }
            Lodger leaving = lodgers[lodger];
            settledAmount += leaving.balance;
            for (int i = lodger; i + 1 < count; i++) {
                lodgers[i] = lodgers[i + 1];
            }
            count--;
            lodgers[count] = leaving;
        }

        void takePayment(Lodger payer, int amount) {
            payer.balance += amount;
            paid += amount;
        }

        void passDay() {
            collectRent();
            giveLessons();
            for (int floor = 0; floor < FLOORS; floor++) {
                serveDinner(floor);
            }
            day++;
            if (day % WEEK == 0) {
                inspect();
            }
        }

        private void collectRent() {
            for (int i = 0; i < count; i++) {
                int rent = dailyRent(lodgers[i].floor);
                lodgers[i].balance -= rent;
                charged += rent;
            }
        }

        private void giveLessons() {
            for (int i = 0; i < count; i++) {
                if (lodgers[i].balance >= 0 && lodgers[i].accent.approach(landlady)) {
                    lodgers[i].lessons++;
                }
            }
        }

        private void serveDinner(int floor) {
            if (crowdOn(floor) < 2) {
                return;
            }
            computeAverage(floor);
            for (int i = 0; i < count; i++) {
                if (lodgers[i].floor == floor && lodgers[i].accent.approach(average)) {
                    lodgers[i].slips++;
                }
            }
        }

        private void inspect() {
            // From the last to the first: who leaves moves only lodgers that were looked at before.
            for (int i = count - 1; i >= 0; i--) {
                if (mustLeave(lodgers[i])) {
                    dismiss(i);
                    evicted++;
                }
            }
        }
    }

    /** The states before the last changes, in a ring. */
    private static final class History {
        private final House[] past = new House[UNDO_LIMIT];
        private int oldest;
        int kept;

        History() {
            for (int i = 0; i < UNDO_LIMIT; i++) {
                past[i] = new House();
            }
        }

        void clear() {
            oldest = 0;
            kept = 0;
        }

        void remember(House house) {
            if (kept == UNDO_LIMIT) {
                oldest = (oldest + 1) % UNDO_LIMIT;
                kept--;
            }
            past[(oldest + kept) % UNDO_LIMIT].copyFrom(house);
            kept++;
        }

        void takeBack(House house) {
            if (kept > 0) {
                kept--;
                house.copyFrom(past[(oldest + kept) % UNDO_LIMIT]);
            }
        }
    }

    private enum Token { END, WORD, NUMBER, SEMICOLON, WRONG }

    /** Finds the tokens of a text, one after another. */
    private static final class Tokens {
        private final byte[] text;
        private final StringBuilder letters = new StringBuilder();
        private int length;
        Token kind = Token.END;
        int start;
        int end;

        Tokens(byte[] text) {
            this.text = text;
        }

        void restart(int textLength) {
            length = Math.min(textLength, text.length);
            kind = Token.SEMICOLON;
            end = 0;
            step();
        }

        void step() {
            boolean mayTouch = kind != Token.WORD && kind != Token.NUMBER;
            start = end;
            while (start < length && (text[start] == ' ' || text[start] == '\n')) {
                start++;
            }
            boolean touches = start == end;
            end = start;
            if (start >= length) {
                kind = Token.END;
            } else if (isLetter(text[start])) {
                kind = touches && !mayTouch ? Token.WRONG : Token.WORD;
                while (end < length && isLetter(text[end])) {
                    end++;
                }
            } else if (isDigit(text[start])) {
                kind = touches && !mayTouch ? Token.WRONG : Token.NUMBER;
                while (end < length && isDigit(text[end])) {
                    end++;
                }
            } else {
                kind = text[start] == ';' ? Token.SEMICOLON : Token.WRONG;
                end++;
            }
        }

        private static boolean isLetter(byte b) {
            return b >= 'a' && b <= 'z';
        }

        private static boolean isDigit(byte b) {
            return b >= '0' && b <= '9';
        }

        int size() {
            return end - start;
        }

        boolean isWord(String word) {
            if (kind != Token.WORD || size() != word.length()) {
                return false;
            }
            for (int i = 0; i < word.length(); i++) {
                if (text[start + i] != word.charAt(i)) {
                    return false;
                }
            }
            return true;
        }

        /** The value of a number token, of which the parser has seen that it is short. */
        int value() {
            int value = 0;
            for (int i = start; i < end; i++) {
                value = value * 10 + (text[i] - '0');
            }
            return value;
        }

        String word() {
            letters.setLength(0);
            for (int i = start; i < end; i++) {
                letters.append((char) (text[i] & 255));
            }
            return letters.toString();
        }
    }

    /** Reads a description and carries its lines out in a house of its own, up to the first error. */
    private static final class Parser {
        private static final int SYNTAX = 1;
        private static final int OUT_OF_RANGE = 2;
        private static final int UNKNOWN_NAME = 3;
        private static final int DUPLICATE_NAME = 4;
        private static final int TOO_MANY_LODGERS = 5;
        private static final int FLOOR_FULL = 6;

        private final byte[] text;
        private final Tokens tokens;
        final House house = new House();
        int errorKind;
        int errorOffset = NONE;

        Parser(byte[] text) {
            this.text = text;
            this.tokens = new Tokens(text);
        }

        void read(int length) {
            errorKind = 0;
            errorOffset = NONE;
            tokens.restart(length);
            readHeader();
            // No line without a byte, so the text's length bounds the number of its lines.
            for (int line = 0; line < length && errorKind == 0 && tokens.kind == Token.SEMICOLON; line++) {
                tokens.step();
                if (tokens.isWord("lodger")) {
                    readLodger();
                } else if (tokens.isWord("pay")) {
                    readPay();
                } else if (tokens.isWord("move")) {
                    readMove();
                } else if (tokens.isWord("days")) {
                    readDays();
                } else {
                    fail(SYNTAX, tokens.start);
                }
            }
            if (tokens.kind != Token.END) {
                fail(SYNTAX, tokens.start);
            }
        }

        private void readHeader() {
            expectWord("house");
            int rent = readNumber(0, HIGHEST_RENT);
            int tolerance = readNumber(0, HIGHEST_TOLERANCE);
            if (tokens.kind != Token.SEMICOLON) {
                fail(SYNTAX, tokens.start);
                return;
            }
            tokens.step();
            expectWord("landlady");
            house.open(rent, tolerance);
            house.landlady.setDigits(readAccent());
        }

        private void readLodger() {
            if (house.count >= MOST_LODGERS) {
                fail(TOO_MANY_LODGERS, tokens.start);
                return;
            }
            tokens.step();
            if (!isAtName()) {
                fail(SYNTAX, tokens.start);
                return;
            }
            if (house.numberOf(text, tokens.start, tokens.end) != NONE) {
                fail(DUPLICATE_NAME, tokens.start);
                return;
            }
            String name = tokens.word();
            tokens.step();
            int floor = readFloor(null);
            int payment = readNumber(0, HIGHEST_PAYMENT);
            int accent = readAccent();
            if (errorKind == 0) {
                house.receive(name, floor, payment, accent);
            }
        }

        private void readPay() {
            tokens.step();
            Lodger payer = readKnownName();
            int amount = readNumber(1, HIGHEST_PAYMENT);
            if (payer != null && errorKind == 0) {
                house.takePayment(payer, amount);
            }
        }

        private void readMove() {
            tokens.step();
            Lodger mover = readKnownName();
            int floor = readFloor(mover);
            if (mover != null && errorKind == 0) {
                mover.floor = floor;
            }
        }

        private void readDays() {
            tokens.step();
            int days = readNumber(1, MOST_DAYS);
            for (int passed = 0; passed < days && errorKind == 0; passed++) {
                house.passDay();
            }
        }

        private void expectWord(String word) {
            if (tokens.isWord(word)) {
                tokens.step();
            } else {
                fail(SYNTAX, tokens.start);
            }
        }

        private boolean isAtName() {
            return tokens.kind == Token.WORD && tokens.size() <= LONGEST_NAME;
        }

        /** Answers the lodger of that name, or null behind an error. */
        private Lodger readKnownName() {
            if (!isAtName()) {
                fail(SYNTAX, tokens.start);
                return null;
            }
            int lodger = house.numberOf(text, tokens.start, tokens.end);
            if (lodger == NONE) {
                fail(UNKNOWN_NAME, tokens.start);
                return null;
            }
            tokens.step();
            return house.lodgers[lodger];
        }

        private int readNumber(int low, int high) {
            if (tokens.kind != Token.NUMBER || tokens.size() > MOST_DIGITS) {
                fail(SYNTAX, tokens.start);
                return low;
            }
            int value = tokens.value();
            if (value < low || value > high) {
                fail(OUT_OF_RANGE, tokens.start);
                return low;
            }
            tokens.step();
            return value;
        }

        private int readFloor(Lodger mover) {
            int offset = tokens.start;
            int floor = readNumber(0, FLOORS - 1);
            if (house.isFullFor(floor, mover)) {
                fail(FLOOR_FULL, offset);
            }
            return floor;
        }

        private int readAccent() {
            int digits = 0;
            for (int vowel = 0; vowel < VOWELS; vowel++) {
                digits = digits * 10 + readNumber(0, HIGHEST_POSITION);
            }
            return digits;
        }

        /** Reports an error; later ones don't count, as the text is read from the left to the right. */
        private void fail(int kind, int offset) {
            if (errorKind == 0) {
                errorKind = kind;
                errorOffset = offset;
            }
        }
    }
}
