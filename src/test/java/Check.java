import java.util.function.Supplier;

/** What the tests share: checks that count their failures, and ways to feed an AccentHouse. */
final class Check {
    static final String HEADER = "house 5 6;landlady 4 4 4 4 4";

    private static int failures = 0;
    private static int checks = 0;
    private static String place = "";

    private Check() {
    }

    static void equal(String what, Object got, Object due) {
        checks++;
        if (!got.equals(due)) {
            fail(what + ": answered " + got + ", due is " + due);
        }
    }

    private static void fail(String message) {
        failures++;
        System.out.println(place + message);
    }

    /** Tells which sentence of the document the checks from here on belong to. */
    static void under(String sentence) {
        place = sentence.isEmpty() ? "" : "[" + sentence + "] ";
    }

    static int count() {
        return checks;
    }

    static void answers(String what, Supplier<Object> call) {
        checks++;
        try {
            call.get();
        } catch (RuntimeException e) {
            fail(what + ": throws " + e + ", due is an answer");
        }
    }

    static void rejects(String what, Class<? extends RuntimeException> due, Supplier<Object> call) {
        checks++;
        String got;
        try {
            got = String.valueOf(call.get());
        } catch (RuntimeException e) {
            if (e.getClass() == due) {
                return;
            }
            got = e.toString();
        }
        fail(what + ": answered " + got + ", due is " + due.getName());
    }

    static void outside(String what, Supplier<Object> call) {
        rejects(what, IndexOutOfBoundsException.class, call);
    }

    static void illegal(String what, Supplier<Object> call) {
        rejects(what, IllegalArgumentException.class, call);
    }

    static void refused(String what, Supplier<Object> call) {
        rejects(what, IllegalStateException.class, call);
    }

    static void finish() {
        System.out.println(checks + " checks, " + failures + " failures");
        if (failures != 0) {
            System.exit(1);
        }
    }

    /** Appends a text, filled up with spaces to a multiple of 20 bytes; each character is a byte. */
    static void feed(AccentHouse house, String text) {
        for (int from = 0; from < text.length(); from += 20) {
            house.append(word(text, from), word(text, from + 4), word(text, from + 8),
                    word(text, from + 12), word(text, from + 16));
        }
    }

    private static int word(String text, int from) {
        int word = 0;
        for (int i = from; i < from + 4; i++) {
            word = word << 8 | (i < text.length() ? text.charAt(i) : ' ');
        }
        return word;
    }

    static int load(AccentHouse house, String text) {
        feed(house, text);
        return house.load(text.length());
    }

    /** A house of the usual header and some lines. */
    static AccentHouse withLines(String lines) {
        return with(HEADER + lines);
    }

    static AccentHouse with(String text) {
        AccentHouse house = new AccentHouse();
        load(house, text);
        return house;
    }

    static void fault(String text, int kind, int offset) {
        AccentHouse house = new AccentHouse();
        feed(house, text);
        illegal("load of '" + text + "'", () -> house.load(text.length()));
        equal("errorKind of '" + text + "'", house.errorKind(), kind);
        equal("errorOffset of '" + text + "'", house.errorOffset(), offset);
    }

    /** A fault in a line behind the usual header; the offset counts from the end of the header. */
    static void lineFault(String lines, int kind, int offset) {
        fault(HEADER + lines, kind, HEADER.length() + offset);
    }

    static String name(AccentHouse house, int lodger) {
        StringBuilder name = new StringBuilder();
        for (int i = 0; i < house.nameLength(lodger); i++) {
            name.append(house.nameLetter(lodger, i));
        }
        return name.toString();
    }

    static String accent(AccentHouse house, int lodger) {
        StringBuilder digits = new StringBuilder();
        for (int vowel = 0; vowel < 5; vowel++) {
            digits.append(house.vowelOf(lodger, vowel));
        }
        return digits.toString();
    }

    static String output(AccentHouse house, int length) {
        StringBuilder text = new StringBuilder();
        for (int i = 0; i < length; i++) {
            text.append(house.outputCharacter(i));
        }
        return text.toString();
    }

    /** What stands in the output buffer, whose length no method tells. */
    static String wholeOutput(AccentHouse house) {
        StringBuilder text = new StringBuilder();
        while (true) {
            try {
                text.append(house.outputCharacter(text.length()));
            } catch (IndexOutOfBoundsException e) {
                return text.toString();
            }
        }
    }

    /** All that can be asked for without a change: what undo restores and what it leaves. */
    static String everything(AccentHouse house) {
        return state(house) + "; undoCount " + house.undoCount() + " error " + house.errorKind() + " at "
                + house.errorOffset() + " found " + house.findByName() + " output " + wholeOutput(house);
    }

    /** All that undo restores, as far as it shows. */
    static String state(AccentHouse house) {
        StringBuilder all = new StringBuilder();
        all.append("day ").append(house.day()).append(" rent ").append(house.baseRent());
        all.append(" tolerance ").append(house.tolerance()).append(" landlady ");
        for (int vowel = 0; vowel < 5; vowel++) {
            all.append(house.landladyVowel(vowel));
        }
        all.append(" evictions ").append(house.evictions()).append(" paid ").append(house.totalPaid());
        all.append(" charged ").append(house.totalCharged()).append(" settled ").append(house.settled());
        for (int i = 0; i < house.lodgerCount(); i++) {
            all.append("; ").append(name(house, i)).append(" floor ").append(house.floorOf(i));
            all.append(" balance ").append(house.balanceOf(i)).append(" accent ").append(accent(house, i));
            all.append(" lessons ").append(house.lessonsOf(i)).append(" slips ").append(house.slipsOf(i));
            all.append(" stayed ").append(house.daysStayed(i));
        }
        return all.toString();
    }
}
