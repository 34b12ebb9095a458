/** Promises 2 to 5: the input buffer, the description text and its errors. */
public final class TextTest {
    private static final int SYNTAX = 1;
    private static final int OUT_OF_RANGE = 2;
    private static final int UNKNOWN_NAME = 3;
    private static final int DUPLICATE_NAME = 4;
    private static final int TOO_MANY_LODGERS = 5;
    private static final int FLOOR_FULL = 6;

    private static final String FULL_FLOORS = ";lodger a 0 0 0 0 0 0 0;lodger b 0 0 0 0 0 0 0;lodger c 0 0 0 0 0 0 0"
            + ";lodger d 0 0 0 0 0 0 0;lodger e 1 0 0 0 0 0 0;lodger f 1 0 0 0 0 0 0;lodger g 1 0 0 0 0 0 0"
            + ";lodger h 1 0 0 0 0 0 0;lodger i 2 0 0 0 0 0 0;lodger j 2 0 0 0 0 0 0;lodger k 2 0 0 0 0 0 0";

    public static void main(String[] args) {
        append();
        appendOrder();
        loadLength();
        loadReplaces();
        failedLoad();
        lines();
        blanks();
        tooLittle();
        wrongTokens();
        touchingTokens();
        longTokens();
        ranges();
        unknownNames();
        duplicateNames();
        tooManyLodgers();
        fullFloors();
        firstError();
        Check.finish();
    }

    private static void append() {
        AccentHouse house = new AccentHouse();
        for (int length = 20; length <= 600; length += 20) {
            Check.equal("append", house.append(0x20202020, 0x20202020, 0x20202020, 0x20202020, 0x20202020), length);
        }
        Check.refused("append beyond 600", () -> house.append(0, 0, 0, 0, 0));
        Check.refused("append beyond 600 again", () -> house.append(0, 0, 0, 0, 0));
        Check.outside("a refused append adds nothing", () -> house.load(601));
        Check.illegal("load of 600 spaces", () -> house.load(600));
        Check.equal("offset in 600 spaces", house.errorOffset(), 600);
        Check.equal("append after a load", house.append(0, 0, 0, 0, 0), 20);
        String line = ";days 1";
        StringBuilder full = new StringBuilder(Check.HEADER);
        while (full.length() + line.length() <= 600) {
            full.append(line);
        }
        while (full.length() < 600) {
            full.append('\n');
        }
        int days = (600 - Check.HEADER.length()) / line.length();
        Check.equal("load of 600 bytes", Check.with(full.toString()).day(), days);
    }

    private static void appendOrder() {
        AccentHouse house = new AccentHouse();
        house.append(0x686f7573, 0x65203132, 0x2033343b, 0x6c616e64, 0x6c616479);
        house.append(0x20312032, 0x20332034, 0x20350a20, 0xffffffff, 0x80000000);
        house.load(32);
        Check.equal("four bytes of each, the highest first", Check.state(house),
                "day 0 rent 12 tolerance 34 landlady 12345 evictions 0 paid 0 charged 0 settled 0");
    }

    private static void loadLength() {
        AccentHouse house = new AccentHouse();
        Check.feed(house, Check.HEADER);
        for (int wrong : new int[] {-1, 41, 600, 601, Integer.MIN_VALUE, Integer.MAX_VALUE}) {
            Check.outside("load " + wrong, () -> house.load(wrong));
        }
        Check.equal("errorKind after a wrong length", house.errorKind(), 0);
        Check.equal("errorOffset after a wrong length", house.errorOffset(), -1);
        Check.equal("the buffer after a wrong length", house.append(0, 0, 0, 0, 0), 60);
        Check.equal("the bytes behind the length do not count", house.load(Check.HEADER.length()), 0);
        Check.equal("the buffer after a load", house.append(0, 0, 0, 0, 0), 20);
        Check.illegal("load of nothing", () -> house.load(0));
        Check.equal("errorKind of nothing", house.errorKind(), SYNTAX);
        Check.equal("errorOffset of nothing", house.errorOffset(), 0);
        Check.outside("load from an empty buffer", () -> house.load(1));
        bytesBehindTheLength(";lodger ann 0 0 0 0 0 0 0;pay ann", "x 5");
        bytesBehindTheLength(";days", "x");
        bytesBehindTheLength(";", "days 1");
        Check.feed(house, Check.HEADER + "44;days 1;days 1");
        house.load(Check.HEADER.length());
        Check.equal("a number is cut at the length", house.landladyVowel(4), 4);
        Check.equal("no line behind the length", house.day(), 0);
        Check.illegal("load of nothing again", () -> house.load(0));
        Check.equal("errorKind stays", house.errorKind(), SYNTAX);
        Check.equal("errorOffset stays", house.errorOffset(), 0);
        Check.load(house, Check.HEADER);
        Check.equal("errorKind of a good text", house.errorKind(), 0);
        Check.equal("errorOffset of a good text", house.errorOffset(), -1);
        house.advance(1);
        Check.feed(house, "x");
        Check.illegal("load of a bad text", () -> house.load(1));
        house.undo();
        Check.equal("undo keeps the error", house.errorKind(), SYNTAX);
    }

    private static void bytesBehindTheLength(String lines, String rest) {
        AccentHouse house = new AccentHouse();
        Check.feed(house, Check.HEADER + lines + rest);
        int length = Check.HEADER.length() + lines.length();
        Check.illegal("load of '" + lines + "' alone", () -> house.load(length));
        Check.equal("errorKind of '" + lines + "' alone", house.errorKind(), SYNTAX);
        Check.equal("errorOffset of '" + lines + "' alone", house.errorOffset(), length);
    }

    private static void loadReplaces() {
        AccentHouse house = new AccentHouse();
        house.save(0);
        house.save(1);
        house.pay(0, 1);
        Check.equal("load answers the lodgers", Check.load(house, Check.HEADER
                + ";lodger zoe 3 7 1 2 3 4 5;lodger yan 4 999 9 8 7 6 5"), 2);
        Check.equal("the loaded state", Check.state(house), "day 0 rent 5 tolerance 6 landlady 44444 evictions 0"
                + " paid 1006 charged 0 settled 0; zoe floor 3 balance 7 accent 12345 lessons 0 slips 0 stayed 0"
                + "; yan floor 4 balance 999 accent 98765 lessons 0 slips 0 stayed 0");
        Check.equal("undoCount after a load", house.undoCount(), 0);
        Check.refused("undo after a load", () -> house.undo());
        Check.refused("restore 0 after a load", () -> house.restore(0));
        Check.refused("restore 1 after a load", () -> house.restore(1));
    }

    private static void failedLoad() {
        AccentHouse house = new AccentHouse();
        house.save(1);
        house.pay(1, 7);
        house.writeFloor(0);
        String before = Check.state(house);
        String text = Check.HEADER + ";lodger zoe 3 7 1 2 3 4 5;days 9;oops";
        Check.feed(house, text);
        Check.illegal("load of a text with an error", () -> house.load(text.length()));
        Check.equal("the state after an error", Check.state(house), before);
        Check.equal("the output after an error", Check.output(house, 7), "ann,bob");
        Check.equal("undoCount after an error", house.undoCount(), 1);
        Check.equal("restore after an error", house.restore(1), 1);
        Check.equal("the buffer after an error", house.append(0, 0, 0, 0, 0), 20);
    }

    private static void lines() {
        AccentHouse house = Check.withLines(";lodger ann 0 20 4 4 4 4 6;days 2;lodger bob 0 3 0 4 4 4 4;pay ann 100"
                + ";move bob 4;days 1;move bob 4;pay bob 999");
        Check.equal("the lines in their order", Check.state(house), "day 3 rent 5 tolerance 6 landlady 44444"
                + " evictions 0 paid 1122 charged 40 settled 0"
                + "; ann floor 0 balance 105 accent 44444 lessons 2 slips 0 stayed 3"
                + "; bob floor 4 balance 977 accent 04444 lessons 0 slips 0 stayed 1");
        AccentHouse again = Check.withLines(";lodger ann 0 0 0 0 0 0 0;lodger bob 0 999 4 4 4 4 4;days 7"
                + ";lodger ann 1 0 0 0 0 0 0;pay ann 5;move bob 1");
        Check.equal("the name of an evicted lodger", Check.name(again, 1), "ann");
        Check.equal("the payment is the new one's", again.balanceOf(1), 5);
        Check.equal("the move of the lodger who stayed", again.lodgersOn(1), 2);
        AccentHouse months = Check.withLines(";days 100;days 100;days 099;days 001");
        Check.equal("days", months.day(), 300);
        AccentHouse keywords = Check.withLines(";lodger pay 0 1 0 0 0 0 0;lodger days 1 2 0 0 0 0 0;pay pay 5;move days 0");
        Check.equal("keywords as names", keywords.balanceOf(0), 6);
        Check.equal("a keyword moves", keywords.floorOf(1), 0);
    }

    private static void blanks() {
        AccentHouse house = Check.with("\n  house  05\n006 ;\n landlady 4\n\n4 04 004 4\n;lodger\nann 00 020 4 4 4 4 6;days 1 \n");
        Check.equal("blanks between tokens", Check.state(house), "day 1 rent 5 tolerance 6 landlady 44444"
                + " evictions 0 paid 20 charged 5 settled 0; ann floor 0 balance 15 accent 44445 lessons 1 slips 0 stayed 1");
        Check.fault("\thouse", SYNTAX, 0);
        Check.fault("house\t5 6", SYNTAX, 5);
        Check.fault("house\r\n5 6", SYNTAX, 5);
        Check.fault("house\u00a05 6", SYNTAX, 5);
        Check.lineFault("\u0000", SYNTAX, 0);
    }

    private static void tooLittle() {
        String[] parts = {"house 5 6 ; landlady 4 4 4 4 4", " ; lodger ann 0 20 4 4 4 4 6", " ; pay ann 5",
            " ; move ann 1", " ; days 1"};
        String before = "";
        for (String part : parts) {
            // Behind each blank of a part something is still due, so the text ends too early there.
            for (int at = part.indexOf(' ', 1); at >= 0; at = part.indexOf(' ', at + 1)) {
                Check.fault(before + part.substring(0, at), SYNTAX, before.length() + at);
                Check.fault(before + part.substring(0, at + 1), SYNTAX, before.length() + at + 1);
            }
            before += part;
        }
        Check.equal("the whole text", Check.with(before).day(), 1);
        Check.fault("   ", SYNTAX, 3);
        Check.fault("\n\n", SYNTAX, 2);
        Check.lineFault(";", SYNTAX, 1);
        Check.lineFault(";  \n", SYNTAX, 4);
    }

    private static void wrongTokens() {
        Check.fault("hous 5 6;landlady 4 4 4 4 4", SYNTAX, 0);
        Check.fault("houses 5 6;landlady 4 4 4 4 4", SYNTAX, 0);
        Check.fault("House 5 6;landlady 4 4 4 4 4", SYNTAX, 0);
        Check.fault("5 house 6;landlady 4 4 4 4 4", SYNTAX, 0);
        Check.fault("; house 5 6;landlady 4 4 4 4 4", SYNTAX, 0);
        Check.fault("house five 6;landlady 4 4 4 4 4", SYNTAX, 6);
        Check.fault("house ; 6", SYNTAX, 6);
        Check.fault("house -5 6;landlady 4 4 4 4 4", SYNTAX, 6);
        Check.fault("house 5 6 landlady 4 4 4 4 4", SYNTAX, 10);
        Check.fault("house 5 6,landlady 4 4 4 4 4", SYNTAX, 9);
        Check.fault("house 5 6;;landlady 4 4 4 4 4", SYNTAX, 10);
        Check.fault("house 5 6;lodger ann 0 0 0 0 0 0 0", SYNTAX, 10);
        Check.fault("house 5 6;landlady 4 4 4 4;days 1", SYNTAX, 26);
        Check.lineFault(" 4", SYNTAX, 1);
        Check.lineFault(" days 1", SYNTAX, 1);
        Check.lineFault(";;days 1", SYNTAX, 1);
        Check.lineFault(";1", SYNTAX, 1);
        Check.lineFault(";day 1", SYNTAX, 1);
        Check.lineFault(";dayss 1", SYNTAX, 1);
        Check.lineFault(";days x", SYNTAX, 6);
        Check.lineFault(";days 1 1", SYNTAX, 8);
        Check.lineFault(";days 1;", SYNTAX, 8);
        Check.lineFault(";days 1 days 1", SYNTAX, 8);
        Check.lineFault(";lodger 1 0 0 0 0 0 0 0", SYNTAX, 8);
        Check.lineFault(";lodger ;", SYNTAX, 8);
        Check.lineFault(";lodger ann bob 0 0 0 0 0 0", SYNTAX, 12);
        Check.lineFault(";lodger ann 0 0 0 0 0 0;", SYNTAX, 23);
        Check.lineFault(";lodger ann 0 0 0 0 0 0 0 0", SYNTAX, 26);
        Check.lineFault(";pay 5", SYNTAX, 5);
        Check.lineFault(";lodger ann 0 0 0 0 0 0 0;pay ann", SYNTAX, 33);
        Check.lineFault(";lodger ann 0 0 0 0 0 0 0;pay ann ann", SYNTAX, 34);
        Check.lineFault(";lodger ann 0 0 0 0 0 0 0;move ann ;", SYNTAX, 35);
        Check.lineFault(";lodger ann 0 0 0 0 0 0 0;move 0", SYNTAX, 31);
        Check.lineFault(";\u00ff", SYNTAX, 1);
        Check.lineFault(";days \u00b1", SYNTAX, 6);
        Check.lineFault(";{days 1", SYNTAX, 1);
        Check.lineFault(";`days 1", SYNTAX, 1);
        Check.lineFault(";days /", SYNTAX, 6);
        Check.lineFault(";days :", SYNTAX, 6);
    }

    private static void touchingTokens() {
        Check.fault("house5 6;landlady 4 4 4 4 4", SYNTAX, 5);
        Check.fault("house 5 6;landlady4 4 4 4 4", SYNTAX, 18);
        Check.fault("house 5 6;landlady 4 4 4 4 4a", SYNTAX, 28);
        Check.lineFault(";days1", SYNTAX, 5);
        Check.lineFault(";days 1x", SYNTAX, 7);
        Check.lineFault(";lodger ann0 0 0 0 0 0 0", SYNTAX, 11);
        Check.lineFault(";lodger 1ann 0 0 0 0 0 0 0", SYNTAX, 8);
        Check.lineFault(";lodger ann 0 0 0 0 0 0 0;pay ann5", SYNTAX, 33);
        Check.lineFault(";lodger ann 0 0 0 0 0 0 0;move ann1", SYNTAX, 34);
        Check.lineFault(";lodger ann 0 0 0 0 0 0 0;pay ann\u00005", SYNTAX, 33);
        Check.lineFault(";pay bob5", UNKNOWN_NAME, 5);
        Check.fault("house 51a 6", OUT_OF_RANGE, 6);
        Check.equal("a semicolon may touch", Check.withLines(" ;days 1;days 1\n;\ndays 1").day(), 3);
    }

    private static void longTokens() {
        Check.fault("house 0005 6", SYNTAX, 6);
        Check.fault("house 1000 6", SYNTAX, 6);
        Check.fault("house 5 99999999999999999999", SYNTAX, 8);
        Check.lineFault(";days 1000", SYNTAX, 6);
        Check.lineFault(";days 0001", SYNTAX, 6);
        Check.lineFault(";lodger longest 0 0 0 0 0 0 0", SYNTAX, 8);
        Check.lineFault(";lodger longer 0 0000 0 0 0 0 0", SYNTAX, 17);
        Check.lineFault(";lodger longer 0 0 0 0 0 0 0;pay longest 1", SYNTAX, 33);
        Check.lineFault(";pay unknown 1", SYNTAX, 5);
        Check.lineFault(";move unknown 1", SYNTAX, 6);
        Check.equal("six letters and three digits", Check.withLines(";lodger longer 000 009 0 0 0 0 0").balanceOf(0), 9);
    }

    private static void ranges() {
        Check.fault("house 51 6;landlady 4 4 4 4 4", OUT_OF_RANGE, 6);
        Check.fault("house 50 46;landlady 4 4 4 4 4", OUT_OF_RANGE, 9);
        Check.equal("the highest rent and tolerance", Check.with("house 50 45;landlady 9 9 9 9 9").tolerance(), 45);
        String landlady = "house 5 6;landlady ";
        String lodger = ";lodger a 4 999 ";
        for (int vowel = 0; vowel < 5; vowel++) {
            StringBuilder positions = new StringBuilder("9 9 9 9 9");
            positions.replace(2 * vowel, 2 * vowel + 1, "10");
            Check.fault(landlady + positions, OUT_OF_RANGE, landlady.length() + 2 * vowel);
            Check.lineFault(lodger + positions, OUT_OF_RANGE, lodger.length() + 2 * vowel);
        }
        Check.lineFault(";lodger a 5 0 0 0 0 0 0", OUT_OF_RANGE, 10);
        String known = ";lodger a 4 999 0 0 0 0 0";
        int end = known.length();
        Check.lineFault(known + ";pay a 0", OUT_OF_RANGE, end + 7);
        Check.lineFault(known + ";move a 5", OUT_OF_RANGE, end + 8);
        Check.lineFault(known + ";days 0", OUT_OF_RANGE, end + 6);
        Check.lineFault(known + ";days 101", OUT_OF_RANGE, end + 6);
        Check.equal("the highest payments", Check.withLines(known + ";pay a 999;pay a 1").balanceOf(0), 1999);
        Check.equal("the highest floor", Check.withLines(known + ";move a 0;move a 4").floorOf(0), 4);
        Check.equal("the most days", Check.withLines(known + ";days 100;days 1").day(), 101);
    }

    private static void unknownNames() {
        Check.lineFault(";pay ann 5", UNKNOWN_NAME, 5);
        Check.lineFault(";move ann 5", UNKNOWN_NAME, 6);
        Check.lineFault(";lodger ann 0 0 0 0 0 0 0;pay an 5", UNKNOWN_NAME, 30);
        Check.lineFault(";lodger ann 0 0 0 0 0 0 0;pay anna 5", UNKNOWN_NAME, 30);
        Check.lineFault(";lodger ann 0 0 0 0 0 0 0;move bob 0", UNKNOWN_NAME, 31);
        Check.lineFault(";lodger ann 0 0 0 0 0 0 0;days 7;pay ann 0", UNKNOWN_NAME, 37);
        // Dot lives in the house before the load, not in that of the text.
        Check.lineFault(";pay dot 5", UNKNOWN_NAME, 5);
    }

    private static void duplicateNames() {
        Check.lineFault(";lodger ann 0 0 0 0 0 0 0;lodger ann 9 0 0 0 0 0 0", DUPLICATE_NAME, 33);
        Check.lineFault(";lodger ann 0 0 0 0 0 0 0;lodger bob 0 0 0 0 0 0 0;lodger bob", DUPLICATE_NAME, 58);
        Check.lineFault(";lodger ann 0 0 0 0 0 0 0;days 6;lodger ann 0 0 0 0 0 0 0", DUPLICATE_NAME, 40);
        Check.equal("ann of the house before", Check.withLines(";lodger ann 0 0 0 0 0 0 0").lodgerCount(), 1);
        Check.equal("one name begins the other", Check.withLines(";lodger ann 0 0 0 0 0 0 0;lodger an 0 0 0 0 0 0 0"
                + ";lodger anna 0 0 0 0 0 0 0").lodgerCount(), 3);
    }

    private static void tooManyLodgers() {
        String twelve = FULL_FLOORS + ";lodger l 2 0 0 0 0 0 0";
        Check.equal("12 lodgers", Check.withLines(twelve).lodgerCount(), 12);
        Check.lineFault(twelve + ";lodger m 3 0 0 0 0 0 0", TOO_MANY_LODGERS, twelve.length() + 1);
        Check.lineFault(twelve + ";lodger", TOO_MANY_LODGERS, twelve.length() + 1);
        Check.lineFault(twelve + ";lodger a 9 0 0 0 0 0 0", TOO_MANY_LODGERS, twelve.length() + 1);
        Check.equal("other lines go on", Check.withLines(twelve + ";days 1;pay a 1").day(), 1);
    }

    private static void fullFloors() {
        int end = FULL_FLOORS.length();
        Check.lineFault(FULL_FLOORS + ";lodger l 0 0 0 0 0 0 0", FLOOR_FULL, end + 10);
        Check.lineFault(FULL_FLOORS + ";lodger l 1 1000", FLOOR_FULL, end + 10);
        Check.lineFault(FULL_FLOORS + ";move i 1", FLOOR_FULL, end + 8);
        Check.lineFault(FULL_FLOORS + ";move a 1", FLOOR_FULL, end + 8);
        Check.lineFault(FULL_FLOORS + ";lodger l 0", FLOOR_FULL, end + 10);
        Check.lineFault(FULL_FLOORS + ";lodger a 0", DUPLICATE_NAME, end + 8);
        Check.equal("the fourth of a full floor moves to it",
                Check.withLines(FULL_FLOORS + ";move d 0;move a 2;move i 0").floorOf(8), 0);
    }

    private static void firstError() {
        Check.fault("house 51 46;landlady 4 4 4 4 44", OUT_OF_RANGE, 6);
        Check.fault("house 5 6;landlady 4 4 4 4 10;pay bob 0;oops", OUT_OF_RANGE, 27);
        Check.lineFault(";pay bob 0;oops", UNKNOWN_NAME, 5);
        Check.lineFault(";days 0;oops", OUT_OF_RANGE, 6);
        Check.lineFault(";oops;days 0", SYNTAX, 1);
        Check.lineFault(";days 1;days 101;pay x 1", OUT_OF_RANGE, 13);
    }
}
