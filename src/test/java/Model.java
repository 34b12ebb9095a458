import java.util.ArrayDeque;
import java.util.ArrayList;
import java.util.Deque;
import java.util.List;
import java.util.regex.Matcher;
import java.util.regex.Pattern;
import java.util.stream.Collectors;

/**
 * The document once more, in another form: whole states are copied, lodgers are known by their names,
 * texts are cut by a pattern, and what is to be searched for is tried out. ModelTest compares the two.
 */
final class Model {
    private static final int NONE = -1;

    private static final class Lodger {
        final String name;
        int floor;
        int balance;
        int[] accent;
        int lessons;
        int slips;
        final int since;

        Lodger(String name, int floor, int balance, int[] accent, int since) {
            this.name = name;
            this.floor = floor;
            this.balance = balance;
            this.accent = accent;
            this.since = since;
        }

        Lodger copy() {
            Lodger copy = new Lodger(name, floor, balance, accent.clone(), since);
            copy.lessons = lessons;
            copy.slips = slips;
            return copy;
        }
    }

    private static final class State {
        int day;
        int rent;
        int tolerance;
        int[] landlady;
        int evicted;
        int paid;
        int charged;
        int settled;
        List<Lodger> lodgers = new ArrayList<>();

        State copy() {
            State copy = new State();
            copy.day = day;
            copy.rent = rent;
            copy.tolerance = tolerance;
            copy.landlady = landlady.clone();
            copy.evicted = evicted;
            copy.paid = paid;
            copy.charged = charged;
            copy.settled = settled;
            lodgers.forEach(lodger -> copy.lodgers.add(lodger.copy()));
            return copy;
        }

        Lodger named(String name) {
            return lodgers.stream().filter(l -> l.name.equals(name)).findFirst().orElse(null);
        }

        List<Lodger> on(int floor) {
            return lodgers.stream().filter(l -> l.floor == floor).collect(Collectors.toList());
        }

        int[] average(int floor) {
            int[] average = new int[5];
            for (int v = 0; v < 5; v++) {
                int vowel = v;
                average[v] = on(floor).stream().mapToInt(l -> l.accent[vowel]).sum() / on(floor).size();
            }
            return average;
        }

        boolean mustGo(Lodger lodger) {
            return lodger.balance < 0 && Model.gap(lodger.accent, landlady) > tolerance
                    && !Model.rhyming(lodger.accent, landlady);
        }

        void leave(Lodger lodger) {
            settled += lodger.balance;
            lodgers.remove(lodger);
        }

        void passDay() {
            for (Lodger lodger : lodgers) {
                lodger.balance -= rent + 5 * lodger.floor;
                charged += rent + 5 * lodger.floor;
                int vowel = farthest(lodger.accent, landlady);
                if (lodger.balance >= 0 && vowel != NONE) {
                    lodger.accent[vowel] += Integer.signum(landlady[vowel] - lodger.accent[vowel]);
                    lodger.lessons++;
                }
            }
            for (int floor = 0; floor < 5; floor++) {
                if (on(floor).size() >= 2) {
                    int[] average = average(floor);
                    for (Lodger lodger : on(floor)) {
                        int vowel = farthest(lodger.accent, average);
                        if (vowel != NONE) {
                            lodger.accent[vowel] += Integer.signum(average[vowel] - lodger.accent[vowel]);
                            lodger.slips++;
                        }
                    }
                }
            }
            day++;
            if (day % 7 == 0) {
                List<Lodger> leaving = lodgers.stream().filter(this::mustGo).collect(Collectors.toList());
                leaving.forEach(this::leave);
                evicted += leaving.size();
            }
        }
    }

    private static final class Fault extends RuntimeException {
        private static final long serialVersionUID = 1L;
        final int kind;
        final int offset;

        Fault(int kind, int offset) {
            this.kind = kind;
            this.offset = offset;
        }
    }

    private State now;
    private final Deque<State> past = new ArrayDeque<>();
    private final State[] slots = new State[2];
    private String input = "";
    private String output = "";
    private int kind = 0;
    private int offset = NONE;

    Model() {
        now = new Reader("house 5 6; landlady 4 4 4 4 4; lodger ann 0 20 4 4 4 4 6; lodger bob 0 3 0 4 4 4 4; "
                + "lodger cid 1 0 9 9 0 0 4; lodger dot 1 40 9 8 0 1 4; days 1").description();
    }

    /** Reads a text by going through its tokens, each with its offset. */
    private static final class Reader {
        private static final Pattern TOKEN = Pattern.compile("[a-z]+|[0-9]+|[^ \\n]");
        private final List<String> tokens = new ArrayList<>();
        private final List<Integer> offsets = new ArrayList<>();
        private int at = 0;
        private State state;

        Reader(String text) {
            Matcher matcher = TOKEN.matcher(text);
            int end = -1;
            boolean wasJoinable = false;
            while (matcher.find()) {
                String token = matcher.group();
                boolean isJoinable = token.matches("[a-z]+|[0-9]+");
                tokens.add(isJoinable && wasJoinable && matcher.start() == end ? "?" : token);
                offsets.add(matcher.start());
                end = matcher.end();
                wasJoinable = isJoinable;
            }
            tokens.add("");
            offsets.add(text.length());
        }

        private Fault fault(int kind) {
            return new Fault(kind, offsets.get(at));
        }

        private String take(String pattern) {
            if (!tokens.get(at).matches(pattern)) {
                throw fault(1);
            }
            return tokens.get(at++);
        }

        private int number(int low, int high) {
            int value = Integer.parseInt(take("[0-9]{1,3}"));
            if (value < low || value > high) {
                at--;
                throw fault(2);
            }
            return value;
        }

        private int[] accent() {
            int[] accent = new int[5];
            for (int vowel = 0; vowel < 5; vowel++) {
                accent[vowel] = number(0, 9);
            }
            return accent;
        }

        private Lodger known() {
            Lodger lodger = state.named(take("[a-z]{1,6}"));
            if (lodger == null) {
                at--;
                throw fault(3);
            }
            return lodger;
        }

        private int floor(Lodger mover) {
            int floor = number(0, 4);
            if (state.on(floor).stream().filter(l -> l != mover).count() == 4) {
                at--;
                throw fault(6);
            }
            return floor;
        }

        State description() {
            state = new State();
            take("house");
            state.rent = number(0, 50);
            state.tolerance = number(0, 45);
            take(";");
            take("landlady");
            state.landlady = accent();
            while (!tokens.get(at).isEmpty()) {
                take(";");
                line(take("lodger|pay|move|days"));
            }
            return state;
        }

        private void line(String word) {
            if (word.equals("lodger")) {
                lodger();
            } else if (word.equals("pay")) {
                Lodger payer = known();
                int amount = number(1, 999);
                payer.balance += amount;
                state.paid += amount;
            } else if (word.equals("move")) {
                Lodger mover = known();
                mover.floor = floor(mover);
            } else {
                for (int days = number(1, 100); days > 0; days--) {
                    state.passDay();
                }
            }
        }

        private void lodger() {
            if (state.lodgers.size() == 12) {
                at--;
                throw fault(5);
            }
            String name = take("[a-z]{1,6}");
            if (state.named(name) != null) {
                at--;
                throw fault(4);
            }
            int floor = floor(null);
            int payment = number(0, 999);
            state.lodgers.add(new Lodger(name, floor, payment, accent(), state.day));
            state.paid += payment;
        }
    }

    private static int gap(int[] one, int[] other) {
        int sum = 0;
        for (int vowel = 0; vowel < 5; vowel++) {
            sum += Math.abs(one[vowel] - other[vowel]);
        }
        return sum;
    }

    private static boolean rhyming(int[] one, int[] other) {
        int same = 0;
        for (int vowel = 0; vowel < 5; vowel++) {
            same += one[vowel] == other[vowel] ? 1 : 0;
        }
        return same >= 4;
    }

    private static int farthest(int[] one, int[] other) {
        for (int difference = 9; difference > 0; difference--) {
            for (int vowel = 0; vowel < 5; vowel++) {
                if (Math.abs(one[vowel] - other[vowel]) == difference) {
                    return vowel;
                }
            }
        }
        return NONE;
    }

    private static void within(int value, int low, int high) {
        if (value < low || value > high) {
            throw new IndexOutOfBoundsException();
        }
    }

    private static void legal(int value, int low, int high) {
        if (value < low || value > high) {
            throw new IllegalArgumentException();
        }
    }

    private static void allowed(boolean isAllowed) {
        if (!isAllowed) {
            throw new IllegalStateException();
        }
    }

    private Lodger lodger(int number) {
        within(number, 0, now.lodgers.size() - 1);
        return now.lodgers.get(number);
    }

    private void record() {
        past.push(now.copy());
        if (past.size() > 10) {
            past.removeLast();
        }
    }

    int append(int a, int b, int c, int d, int e) {
        allowed(input.length() + 20 <= 600);
        StringBuilder longer = new StringBuilder(input);
        for (int word : new int[] {a, b, c, d, e}) {
            longer.append((char) (word >>> 24)).append((char) (word >> 16 & 255));
            longer.append((char) (word >> 8 & 255)).append((char) (word & 255));
        }
        input = longer.toString();
        return input.length();
    }

    int load(int length) {
        within(length, 0, input.length());
        String text = input.substring(0, length);
        input = "";
        try {
            now = new Reader(text).description();
        } catch (Fault fault) {
            kind = fault.kind;
            offset = fault.offset;
            throw new IllegalArgumentException();
        }
        kind = 0;
        offset = NONE;
        past.clear();
        slots[0] = null;
        slots[1] = null;
        return now.lodgers.size();
    }

    int errorKind() {
        return kind;
    }

    int errorOffset() {
        return offset;
    }

    int day() {
        return now.day;
    }

    int lodgerCount() {
        return now.lodgers.size();
    }

    int baseRent() {
        return now.rent;
    }

    int tolerance() {
        return now.tolerance;
    }

    int rentOf(int floor) {
        within(floor, 0, 4);
        return now.rent + 5 * floor;
    }

    int landladyVowel(int vowel) {
        within(vowel, 0, 4);
        return now.landlady[vowel];
    }

    int daysToInspection() {
        int days = 1;
        while ((now.day + days) % 7 != 0) {
            days++;
        }
        return days;
    }

    int evictions() {
        return now.evicted;
    }

    int undoCount() {
        return past.size();
    }

    int floorOf(int lodger) {
        return lodger(lodger).floor;
    }

    int balanceOf(int lodger) {
        return lodger(lodger).balance;
    }

    int vowelOf(int lodger, int vowel) {
        within(vowel, 0, 4);
        return lodger(lodger).accent[vowel];
    }

    int lessonsOf(int lodger) {
        return lodger(lodger).lessons;
    }

    int slipsOf(int lodger) {
        return lodger(lodger).slips;
    }

    int daysStayed(int lodger) {
        return now.day - lodger(lodger).since;
    }

    int nameLength(int lodger) {
        return lodger(lodger).name.length();
    }

    char nameLetter(int lodger, int index) {
        within(index, 0, lodger(lodger).name.length() - 1);
        return lodger(lodger).name.charAt(index);
    }

    int findByName() {
        return now.lodgers.indexOf(now.named(input.replaceAll("^ +| +$", "")));
    }

    int lodgersOn(int floor) {
        within(floor, 0, 4);
        return now.on(floor).size();
    }

    int lodgerOn(int floor, int place) {
        within(floor, 0, 4);
        within(place, 0, now.on(floor).size() - 1);
        return now.lodgers.indexOf(now.on(floor).get(place));
    }

    int averageVowel(int floor, int vowel) {
        within(floor, 0, 4);
        within(vowel, 0, 4);
        allowed(!now.on(floor).isEmpty());
        return now.average(floor)[vowel];
    }

    int distanceToLandlady(int lodger) {
        return gap(lodger(lodger).accent, now.landlady);
    }

    int distance(int first, int second) {
        return gap(lodger(first).accent, lodger(second).accent);
    }

    boolean rhymes(int first, int second) {
        return rhyming(lodger(first).accent, lodger(second).accent);
    }

    boolean rhymesWithLandlady(int lodger) {
        return rhyming(lodger(lodger).accent, now.landlady);
    }

    int rhymeCount(int lodger) {
        Lodger asked = lodger(lodger);
        return (int) now.lodgers.stream().filter(l -> l != asked && rhyming(l.accent, asked.accent)).count();
    }

    int closestTo(int lodger) {
        Lodger asked = lodger(lodger);
        for (int gap = 0; gap <= 45; gap++) {
            for (int i = 0; i < now.lodgers.size(); i++) {
                if (i != lodger && gap(now.lodgers.get(i).accent, asked.accent) == gap) {
                    return i;
                }
            }
        }
        return NONE;
    }

    int lessonVowel(int lodger) {
        return farthest(lodger(lodger).accent, now.landlady);
    }

    int slipVowel(int lodger) {
        Lodger asked = lodger(lodger);
        return now.on(asked.floor).size() < 2 ? NONE : farthest(asked.accent, now.average(asked.floor));
    }

    boolean mustGo(int lodger) {
        return now.mustGo(lodger(lodger));
    }

    double meanDistance() {
        int sum = now.lodgers.stream().mapToInt(l -> gap(l.accent, now.landlady)).sum();
        return now.lodgers.isEmpty() ? 0.0 : (double) sum / (double) now.lodgers.size();
    }

    float rhymingShare() {
        long rhyming = now.lodgers.stream().filter(l -> rhyming(l.accent, now.landlady)).count();
        return now.lodgers.isEmpty() ? 0.0f : (float) rhyming / (float) now.lodgers.size();
    }

    /** The day on which a lodger is evicted who pays now, or NONE; the last array is the lodger's end. */
    private int evictionDay(int lodger, int payment, int days, int[] balanceAndDistance) {
        State future = now.copy();
        Lodger watched = future.lodgers.get(lodger);
        watched.balance += payment;
        int evictionDay = NONE;
        for (int day = 1; day <= days && evictionDay == NONE; day++) {
            future.passDay();
            evictionDay = future.lodgers.contains(watched) ? NONE : day;
        }
        balanceAndDistance[0] = watched.balance;
        balanceAndDistance[1] = gap(watched.accent, future.landlady);
        return evictionDay;
    }

    int balanceAfter(int lodger, int days) {
        lodger(lodger);
        legal(days, 0, 100);
        int[] end = new int[2];
        evictionDay(lodger, 0, days, end);
        return end[0];
    }

    int distanceAfter(int lodger, int days) {
        lodger(lodger);
        legal(days, 0, 100);
        int[] end = new int[2];
        return evictionDay(lodger, 0, days, end) == NONE ? end[1] : NONE;
    }

    int daysToEviction(int lodger) {
        lodger(lodger);
        return evictionDay(lodger, 0, 100, new int[2]);
    }

    int paymentToStay(int lodger) {
        lodger(lodger);
        for (int payment = 0; payment <= 999; payment++) {
            if (evictionDay(lodger, payment, daysToInspection(), new int[2]) == NONE) {
                return payment;
            }
        }
        return NONE;
    }

    int totalPaid() {
        return now.paid;
    }

    int totalCharged() {
        return now.charged;
    }

    int settled() {
        return now.settled;
    }

    int ledgerDifference() {
        return 0;
    }

    int advance(int days) {
        legal(days, 1, 100);
        allowed(now.day + days <= 9999);
        record();
        int before = now.evicted;
        for (int i = 0; i < days; i++) {
            now.passDay();
        }
        return now.evicted - before;
    }

    int moveIn(int floor, int payment, int accent) {
        legal(floor, 0, 4);
        legal(payment, 0, 999);
        legal(accent, 0, 99999);
        allowed(now.lodgers.size() < 12 && now.on(floor).size() < 4);
        record();
        char letter = 'a';
        while (now.named(String.valueOf(letter)) != null) {
            letter++;
        }
        int[] positions = String.format("%05d", accent).chars().map(digit -> digit - '0').toArray();
        now.lodgers.add(new Lodger(String.valueOf(letter), floor, payment, positions, now.day));
        now.paid += payment;
        return now.lodgers.size() - 1;
    }

    int moveOut(int lodger) {
        int balance = lodger(lodger).balance;
        record();
        now.leave(lodger(lodger));
        return balance;
    }

    int moveTo(int lodger, int floor) {
        Lodger mover = lodger(lodger);
        legal(floor, 0, 4);
        allowed(now.on(floor).stream().filter(l -> l != mover).count() < 4);
        record();
        int previous = mover.floor;
        mover.floor = floor;
        return previous;
    }

    int pay(int lodger, int amount) {
        lodger(lodger);
        legal(amount, 1, 999);
        record();
        lodger(lodger).balance += amount;
        now.paid += amount;
        return lodger(lodger).balance;
    }

    int setLandladyVowel(int vowel, int position) {
        within(vowel, 0, 4);
        legal(position, 0, 9);
        record();
        int previous = now.landlady[vowel];
        now.landlady[vowel] = position;
        return previous;
    }

    int setTolerance(int tolerance) {
        legal(tolerance, 0, 45);
        record();
        int previous = now.tolerance;
        now.tolerance = tolerance;
        return previous;
    }

    int setBaseRent(int rent) {
        legal(rent, 0, 50);
        record();
        int previous = now.rent;
        now.rent = rent;
        return previous;
    }

    int restore(int slot) {
        within(slot, 0, 1);
        allowed(slots[slot] != null);
        record();
        now = slots[slot].copy();
        return now.day;
    }

    int undo() {
        allowed(!past.isEmpty());
        now = past.pop();
        return past.size();
    }

    int save(int slot) {
        within(slot, 0, 1);
        slots[slot] = now.copy();
        return now.day;
    }

    int writeLodger(int lodger) {
        Lodger written = lodger(lodger);
        StringBuilder text = new StringBuilder(written.name + " ");
        for (int position : written.accent) {
            text.append(position);
        }
        output = text + " " + written.balance;
        return output.length();
    }

    int writeFloor(int floor) {
        within(floor, 0, 4);
        output = now.on(floor).stream().map(l -> l.name).collect(Collectors.joining(","));
        return output.length();
    }

    char outputCharacter(int index) {
        within(index, 0, output.length() - 1);
        return output.charAt(index);
    }
}
