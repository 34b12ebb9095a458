/** The boundary cases of the description text, and promises 2 to 5: append, load, errorKind and errorOffset. */
final class TextBounds {
    private static final int SYNTAX = 1;
    private static final int RANGE = 2;
    private static final int UNKNOWN = 3;
    private static final int DUPLICATE = 4;
    private static final int TOO_MANY = 5;
    private static final int FULL = 6;

    private static final String ANN = ";lodger ann 0 0 4 4 4 4 4";
    private static final String ZEROS = " 0 0 0 0 0 0";
    private static final String FOUR = ";lodger a 0" + ZEROS + ";lodger b 0" + ZEROS + ";lodger c 0" + ZEROS
            + ";lodger d 0" + ZEROS;
    private static final String ELEVEN = FOUR + ";lodger e 1" + ZEROS + ";lodger f 1" + ZEROS + ";lodger g 1" + ZEROS
            + ";lodger h 1" + ZEROS + ";lodger i 2" + ZEROS + ";lodger j 2" + ZEROS + ";lodger k 2" + ZEROS;
    private static final String TWELVE = ELEVEN + ";lodger l 2" + ZEROS;

    private TextBounds() {
    }

    static void run() {
        header();
        lines();
        repetition();
        headerNumbers();
        moveInLine();
        otherLines();
        order();
        tokens();
        blanks();
        touchingTokens();
        smallestOffset();
        endOfText();
        smallestKind();
        syntaxErrors();
        otherErrors();
        append();
        appendFull();
        load();
        loadLength();
        loadWrongLength();
        loadWithError();
        reportedError();
    }

    private static void says(String sentence) {
        Document.says(Document.TERMS, sentence);
    }

    /** A text in which ^ stands before the token that is wrong. */
    private static void error(int kind, String marked) {
        int offset = marked.indexOf('^');
        Check.fault(marked.substring(0, offset) + marked.substring(offset + 1), kind, offset);
    }

    private static void lineError(int kind, String marked) {
        error(kind, Check.HEADER + marked);
    }

    private static void fits(String text, int lodgers) {
        AccentHouse house = new AccentHouse();
        Check.feed(house, text);
        Check.answers("load of '" + text + "'", () -> house.load(text.length()));
        Check.equal("lodgers of '" + text + "'", house.lodgerCount(), lodgers);
        Check.equal("errorKind of '" + text + "'", house.errorKind(), 0);
    }

    private static void header() {
        says("description = \"house\" number number \";\" \"landlady\" number number number number number { \";\" line }");
        fits("house 5 6;landlady 4 4 4 4 4", 0);
        error(SYNTAX, "^");
        error(SYNTAX, "^5 6;landlady 4 4 4 4 4");
        error(SYNTAX, "^landlady 4 4 4 4 4;house 5 6");
        error(SYNTAX, "house 5^;landlady 4 4 4 4 4");
        error(SYNTAX, "house 5 6 ^6;landlady 4 4 4 4 4");
        error(SYNTAX, "house 5 6 ^landlady 4 4 4 4 4");
        error(SYNTAX, "house 5 6;^4 4 4 4 4");
        error(SYNTAX, "house 5 6;^house 4 4 4 4 4");
        error(SYNTAX, "house 5 6;landlady 4 4 4 4^");
        error(SYNTAX, "house 5 6;landlady 4 4 4 4^;days 1");
        error(SYNTAX, "house 5 6;landlady 4 4 4 4 4 ^4");
        error(SYNTAX, "house 5 6;landlady 4 4 4 4 4 ^days 1");
        error(SYNTAX, "house 5 6;landlady 4 4 4 4 4;^");
        error(SYNTAX, "house 5 6^");
        oneLetterOff("", "house", " 5 6;landlady 4 4 4 4 4");
        oneLetterOff("house 5 6;", "landlady", " 4 4 4 4 4");
        error(SYNTAX, "house 5 6;landlady 4 4 4 4 4;^house 5 6;landlady 4 4 4 4 4");
    }

    private static void lines() {
        says("line        = \"lodger\" name number number number number number number number");
        fits(Check.HEADER + ANN, 1);
        lineError(SYNTAX, ";^ann 0 0 4 4 4 4 4");
        lineError(SYNTAX, ";lodger ^0 0 4 4 4 4 4");
        lineError(SYNTAX, ";lodger ann ^bob 0 0 4 4 4 4 4");
        lineError(SYNTAX, ";lodger ann 0 0 4 4 4 4^;days 1");
        lineError(SYNTAX, ";lodger ann 0 0 4 4 4 4^");
        lineError(SYNTAX, ";lodger ann 0 0 4 4 4 4 4 ^4");

        says("| \"pay\" name number | \"move\" name number | \"days\" number");
        fits(Check.HEADER + ANN + ";pay ann 1;move ann 1;days 1", 1);
        for (String word : new String[] {"pay", "move"}) {
            lineError(SYNTAX, ANN + ";" + word + " ^1");
            lineError(SYNTAX, ANN + ";" + word + " ann^");
            lineError(SYNTAX, ANN + ";" + word + " ann ^ann");
            lineError(SYNTAX, ANN + ";" + word + " ann^;days 1");
            lineError(SYNTAX, ANN + ";" + word + " ann 1 ^1");
        }
        lineError(SYNTAX, ";days^");
        lineError(SYNTAX, ";days ^one");
        lineError(SYNTAX, ";days 1 ^1");
        lineError(SYNTAX, ";^1");
        lineError(SYNTAX, ";^landlady 4 4 4 4 4");
        for (String word : new String[] {"lodger", "pay", "move", "days"}) {
            oneLetterOff(Check.HEADER + ";", word, " ann 0 0 4 4 4 4 4");
        }
    }

    /** A word of the grammar with another letter at one place, one too few and one too many. */
    private static void oneLetterOff(String before, String word, String behind) {
        for (int i = 0; i < word.length(); i++) {
            String rest = word.substring(i + 1);
            error(SYNTAX, before + "^" + word.substring(0, i) + "q" + rest + behind);
            error(SYNTAX, before + "^" + word.substring(0, i) + rest + behind);
            error(SYNTAX, before + "^" + word.substring(0, i) + "q" + word.substring(i) + behind);
        }
    }

    private static void repetition() {
        says("Braces enclose a part that may occur any number of times, and a bar separates alternatives.");
        fits(Check.HEADER, 0);
        fits(Check.HEADER + ANN, 1);
        Check.equal("two lines", Check.withLines(";days 1;days 1").day(), 2);
        Check.equal("as many lines as 600 bytes hold", Check.withLines(";days 7".repeat(81)).day(), 567);
    }

    private static void headerNumbers() {
        says("The numbers after \"house\" are the base rent (0 to 50) and the tolerance (0 to 45).");
        AccentHouse low = Check.with("house 0 0;landlady 4 4 4 4 4");
        Check.equal("the lowest", low.baseRent() + " " + low.tolerance(), "0 0");
        AccentHouse high = Check.with("house 50 45;landlady 4 4 4 4 4");
        Check.equal("the highest", high.baseRent() + " " + high.tolerance(), "50 45");
        error(RANGE, "house ^51 0;landlady 4 4 4 4 4");
        error(RANGE, "house ^999 0;landlady 4 4 4 4 4");
        error(RANGE, "house 46 ^46;landlady 4 4 4 4 4");
        error(RANGE, "house 0 ^999;landlady 4 4 4 4 4");

        says("The numbers after \"landlady\" are the positions of her five vowels.");
        AccentHouse order = Check.with("house 5 6;landlady 9 0 1 2 3");
        for (int vowel = 0; vowel < 5; vowel++) {
            Check.equal("the vowel " + vowel, order.landladyVowel(vowel), (vowel + 9) % 10);
        }
        error(RANGE, "house 5 6;landlady ^10 4 4 4 4");
        error(RANGE, "house 5 6;landlady 4 ^10 4 4 4");
        error(RANGE, "house 5 6;landlady 4 4 ^10 4 4");
        error(RANGE, "house 5 6;landlady 4 4 4 ^10 4");
        error(RANGE, "house 5 6;landlady 4 4 4 4 ^10");
    }

    private static void moveInLine() {
        says("\"lodger\" lets a lodger move in.");
        AccentHouse late = Check.withLines(";days 3" + ANN);
        Check.equal("the number of lodgers", late.lodgerCount(), 1);
        Check.equal("no day has passed since", late.daysStayed(0), 0);
        Check.equal("no lesson, no slip", late.lessonsOf(0) + late.slipsOf(0), 0);

        says("The numbers after the name are the floor (0 to 4), the first payment (0 to 999) and the positions"
                + " of the five vowels.");
        AccentHouse ends = Check.withLines(";lodger low 0 0 0 0 0 0 0;lodger high 4 999 9 9 9 9 9;lodger mid 1 2 3 4 5 6 7");
        Check.equal("the lowest", ends.floorOf(0) + " " + ends.balanceOf(0) + " " + Check.accent(ends, 0), "0 0 00000");
        Check.equal("the highest", ends.floorOf(1) + " " + ends.balanceOf(1) + " " + Check.accent(ends, 1), "4 999 99999");
        Check.equal("the order", ends.floorOf(2) + " " + ends.balanceOf(2) + " " + Check.accent(ends, 2), "1 2 34567");
        lineError(RANGE, ";lodger x ^5 0 0 0 0 0 0");
        lineError(SYNTAX, ";lodger x 0 ^1000 0 0 0 0 0");
        lineError(RANGE, ";lodger x 0 0 ^10 0 0 0 0");
        lineError(RANGE, ";lodger x 0 0 0 ^10 0 0 0");
        lineError(RANGE, ";lodger x 0 0 0 0 ^10 0 0");
        lineError(RANGE, ";lodger x 0 0 0 0 0 ^10 0");
        lineError(RANGE, ";lodger x 0 0 0 0 0 0 ^10");
    }

    private static void otherLines() {
        says("\"pay\" is a payment of a lodger (1 to 999), \"move\" moves a lodger to another floor, or to the same one,"
                + " and \"days\" advances the simulation by 1 to 100 days.");
        AccentHouse paid = Check.withLines(ANN + ";pay ann 1;pay ann 999");
        Check.equal("the least and the greatest payment", paid.balanceOf(0) + " " + paid.totalPaid(), "1000 1000");
        lineError(RANGE, ANN + ";pay ann ^0");
        lineError(RANGE, ANN + ";pay ann ^000");
        lineError(SYNTAX, ANN + ";pay ann ^1000");
        Check.equal("moves to the highest floor", Check.withLines(ANN + ";move ann 4").floorOf(0), 4);
        Check.equal("moves to the same floor", Check.withLines(ANN + ";move ann 0").floorOf(0), 0);
        Check.equal("moves to the same full floor", Check.withLines(FOUR + ";move c 0").floorOf(2), 0);
        lineError(RANGE, ANN + ";move ann ^5");
        Check.equal("the fewest days", Check.withLines(";days 1").day(), 1);
        Check.equal("the most days", Check.withLines(";days 100").day(), 100);
        lineError(RANGE, ";days ^0");
        lineError(RANGE, ";days ^101");
        lineError(SYNTAX, ";days ^1000");
    }

    private static void order() {
        says("The lines are executed in their order.");
        Check.equal("a payment before the day", Check.withLines(";lodger x 0 0 9 9 9 9 9;pay x 5;days 1").lessonsOf(0), 1);
        Check.equal("a payment after the day", Check.withLines(";lodger x 0 0 9 9 9 9 9;days 1;pay x 5").lessonsOf(0), 0);
        Check.equal("a move before the day", Check.withLines(ANN + ";move ann 4;days 1").balanceOf(0), -25);
        Check.equal("a move after the day", Check.withLines(ANN + ";days 1;move ann 4").balanceOf(0), -5);
        Check.equal("the last of two moves", Check.withLines(ANN + ";move ann 4;move ann 2").floorOf(0), 2);
        lineError(UNKNOWN, ";pay ^ann 5" + ANN);
    }

    private static void tokens() {
        says("A token is a word (a run of letters a to z), a number (a run of digits) or a semicolon, and each token"
                + " is as long as possible.");
        AccentHouse ends = Check.withLines(";lodger az 0 90 0 9 0 9 0");
        Check.equal("the letters a and z", Check.name(ends, 0), "az");
        Check.equal("the digits 9 and 0", ends.balanceOf(0), 90);
        // The bytes on either side of a, z, 0 and 9.
        lineError(SYNTAX, ";^`ays 1");
        lineError(SYNTAX, ";^{ays 1");
        lineError(SYNTAX, ";days ^/");
        lineError(SYNTAX, ";days ^:");
        lineError(SYNTAX, ";^Days 1");
        lineError(SYNTAX, ";lodger a^`b 0 0 4 4 4 4 4");
        lineError(SYNTAX, ";lodger y^{z 0 0 4 4 4 4 4");
        error(RANGE, "house ^99 9;landlady 4 4 4 4 4");
        error(SYNTAX, "^houses 5 6;landlady 4 4 4 4 4");
        lineError(SYNTAX, ";^daysx 1");
        lineError(SYNTAX, ";^lodgerann 0 0 4 4 4 4 4");
        lineError(SYNTAX, ";^;days 1");
        Check.equal("semicolons without blanks", Check.withLines(";days 1;days 1").day(), 2);
    }

    private static void blanks() {
        says("Spaces (byte 32) and line feeds (byte 10) may stand between tokens and at both ends of the text.");
        fits(" " + Check.HEADER + " ", 0);
        fits("\n" + Check.HEADER + "\n", 0);
        fits(" \n \n" + Check.HEADER.replace(" ", "\n\n").replace(";", " ; ") + (ANN + ";days 1").replace(" ", " \n")
                + "\n \n", 1);
        for (char sign : new char[] {0, 1, 9, 11, 12, 13, 31, 33, 127, 128, 133, 138, 160, 255}) {
            error(SYNTAX, "^" + sign + Check.HEADER);
            error(SYNTAX, Check.HEADER + "^" + sign);
            error(SYNTAX, "house^" + sign + "5 6;landlady 4 4 4 4 4");
        }
    }

    private static void touchingTokens() {
        says("A word or number that directly follows a word or number, without a space or line feed between them,"
                + " is a syntax error.");
        error(SYNTAX, "house^5 6;landlady 4 4 4 4 4");
        error(SYNTAX, "house 5 6;landlady^4 4 4 4 4");
        lineError(SYNTAX, ";days^1");
        lineError(SYNTAX, ";days 1^days");
        lineError(SYNTAX, ";lodger ^1ann 0 0 4 4 4 4 4");
        lineError(SYNTAX, ";lodger ann^0 0 4 4 4 4 4");
        lineError(SYNTAX, ANN + "^pay");
        lineError(SYNTAX, ANN + ";pay ann^5");
        lineError(SYNTAX, ANN + ";move ann^1");
        fits(Check.HEADER + ANN + ";pay ann\n5;move\nann 1;days\n1", 1);
        fits("house 5 6;landlady 4 4 4 4 4;days 1;days 1", 0);
    }

    private static void smallestOffset() {
        says("The parser reports the error with the smallest offset.");
        error(RANGE, "house ^51 46;landlady 10 4 4 4 4;oops");
        error(RANGE, "house 50 ^46;oops");
        lineError(UNKNOWN, ";pay ^ann 0;;");
        lineError(RANGE, ";days ^0;oops;pay ann 1");
        lineError(DUPLICATE, ANN + ";lodger ^ann 5 0 0 0 0 0 0");
        lineError(TOO_MANY, TWELVE + ";^lodger a 5 oops");
        lineError(FULL, FOUR + ";move a 1;lodger e 0" + ZEROS + ";move a ^0;days 0");
        lineError(SYNTAX, ";^oops;days 0;pay ann 1");

        says("The offset of an error is the offset of the first byte of its token.");
        error(SYNTAX, "^landlady");
        error(SYNTAX, "   ^landlady");
        error(RANGE, "house\n\n  ^999 999");
        lineError(SYNTAX, "\n;\n^daylight 1");
        lineError(SYNTAX, ";lodger   ^annabella 0");
        lineError(SYNTAX, ";days ^12345678901234567890");
    }

    private static void endOfText() {
        says("If the text ends too early, the offset is the length of the text.");
        error(SYNTAX, "^");
        error(SYNTAX, "house^");
        error(SYNTAX, "house \n ^");
        error(SYNTAX, " \n ^");
        error(SYNTAX, " ".repeat(600) + "^");
        lineError(SYNTAX, ";^");
        lineError(SYNTAX, ";  ^");
        lineError(SYNTAX, ";lodger ^");
        lineError(SYNTAX, ";days ^");
        AccentHouse cut = new AccentHouse();
        Check.feed(cut, Check.HEADER + ";days 1");
        Check.illegal("a text cut off by its length", () -> cut.load(Check.HEADER.length() + 6));
        Check.equal("the offset there", cut.errorOffset(), Check.HEADER.length() + 6);
    }

    private static void smallestKind() {
        says("If several kinds of error apply to one token, the parser reports the smallest kind.");
        // Out of range as well:
        error(SYNTAX, "house ^0051 6");
        error(SYNTAX, "house^51 6");
        lineError(SYNTAX, ";days^101");
        // Unknown as well:
        lineError(SYNTAX, ";pay ^unknown 5");
        lineError(SYNTAX, ";move ^unknown 5");
        // The floor is full as well:
        lineError(SYNTAX, FOUR + ";lodger e ^0000");
        lineError(SYNTAX, FOUR + ";lodger e^0");
        lineError(SYNTAX, FOUR + ";lodger e 1" + ZEROS + ";move e^0");
        // Too many lodgers as well:
        lineError(SYNTAX, TWELVE + ";days ^lodger");
        lineError(SYNTAX, TWELVE + " ^lodger");
        lineError(SYNTAX, TWELVE + "^lodger");
        lineError(UNKNOWN, TWELVE + ";pay ^lodger 1");
    }

    private static void syntaxErrors() {
        says("Kind 1, syntax error: a token that the grammar does not allow at this place, a name with more than"
                + " 6 letters, a number with more than 3 digits, a byte that starts no token, or the end of the text.");
        lineError(SYNTAX, ";lodger ann ^;");
        lineError(SYNTAX, ";lodger ^sevenxx 0 0 4 4 4 4 4");
        fits(Check.HEADER + ";lodger sixxxx 0 0 4 4 4 4 4;pay sixxxx 1", 1);
        lineError(SYNTAX, ANN + ";pay ^annannn 1");
        error(SYNTAX, "house ^0005 6");
        error(SYNTAX, "house 5 ^0006");
        error(SYNTAX, "house 5 6;landlady 4 4 4 4 ^0004");
        fits("house 005 006;landlady 004 004 004 004 004;days 001", 0);
        lineError(SYNTAX, ";lodger ann ^0000 0 4 4 4 4 4");
        lineError(SYNTAX, ";^!");
        lineError(SYNTAX, ";days 1^!");
        lineError(SYNTAX, ";days 1 ^-");
        lineError(SYNTAX, ";days ^-1");
        lineError(SYNTAX, ";days^");
    }

    private static void otherErrors() {
        says("Kind 2, out of range: a number outside its range.");
        error(RANGE, "house ^051 6;landlady 4 4 4 4 4");
        lineError(RANGE, ";lodger ann 0 0 4 4 4 4 ^010");
        lineError(RANGE, ANN + ";pay ann ^0;days 1");

        says("Kind 3, unknown name: the name after \"pay\" or \"move\" belongs to no lodger in the house.");
        lineError(UNKNOWN, ";pay ^ann 1");
        lineError(UNKNOWN, ";move ^ann 1");
        lineError(UNKNOWN, ANN + ";pay ^an 1");
        lineError(UNKNOWN, ANN + ";move ^anna 1");
        lineError(UNKNOWN, ";lodger ann 0 0 9 9 9 9 9;days 7;pay ^ann 1");
        fits(Check.HEADER + ";lodger ann 0 0 9 9 9 9 9;days 6;pay ann 1;move ann 1", 1);

        says("Kind 4, duplicate name: the name after \"lodger\" belongs to a lodger in the house.");
        lineError(DUPLICATE, ANN + ";lodger ^ann 1 0 4 4 4 4 4");
        lineError(DUPLICATE, ANN + ";lodger bob 0 0 0 0 0 0 0;lodger ^bob");
        lineError(DUPLICATE, ";lodger ann 0 0 9 9 9 9 9;days 6;lodger ^ann 0 0 4 4 4 4 4");
        fits(Check.HEADER + ";lodger ann 0 0 9 9 9 9 9;days 7" + ANN, 1);
        fits(Check.HEADER + ANN + ";lodger an 0 0 0 0 0 0 0;lodger anna 0 0 0 0 0 0 0", 3);

        says("Kind 5, too many lodgers: the word \"lodger\" when 12 lodgers live in the house.");
        fits(Check.HEADER + TWELVE, 12);
        lineError(TOO_MANY, TWELVE + ";^lodger m 3" + ZEROS);
        lineError(TOO_MANY, TWELVE + ";days 6;^lodger");
        fits(Check.HEADER + TWELVE + ";days 7;lodger m 3" + ZEROS, 1);

        says("Kind 6, floor full: the number of a floor on which 4 other lodgers live.");
        lineError(FULL, FOUR + ";lodger e ^0" + ZEROS);
        lineError(FULL, FOUR + ";lodger e 1" + ZEROS + ";move e ^0");
        fits(Check.HEADER + FOUR + ";move d 0", 4);
        fits(Check.HEADER + FOUR + ";move d 1;lodger e 0" + ZEROS, 5);
        fits(Check.HEADER + FOUR + ";days 7;lodger e 0" + ZEROS, 1);
        lineError(FULL, ELEVEN + ";lodger l 2" + ZEROS + ";move a ^2");
        lineError(FULL, ELEVEN + ";lodger l ^1" + ZEROS);
    }

    private static void append() {
        Document.says(2, "Appends 20 bytes to the input buffer: the four bytes of each parameter in order,"
                + " most significant byte first.");
        byteOrder(0, 20);
        Document.says(2, "- `a`: the first four bytes");
        byteOrder(0, 4);
        Document.says(2, "- `b`: the next four bytes");
        byteOrder(4, 8);
        Document.says(2, "- `c`: the next four bytes");
        byteOrder(8, 12);
        Document.says(2, "- `d`: the next four bytes");
        byteOrder(12, 16);
        Document.says(2, "- `e`: the last four bytes");
        byteOrder(16, 20);
    }

    /** Of 20 bytes all but one are spaces; that one is found where it stands, whatever its highest bit. */
    private static void byteOrder(int from, int to) {
        for (int at = from; at < to; at++) {
            for (int sign : new int[] {'!', 0, 0x80, 0xff}) {
                int[] words = new int[5];
                for (int i = 0; i < 20; i++) {
                    words[i / 4] = words[i / 4] << 8 | (i == at ? sign : ' ');
                }
                AccentHouse house = new AccentHouse();
                house.append(words[0], words[1], words[2], words[3], words[4]);
                Check.illegal("load of a byte " + sign, () -> house.load(20));
                Check.equal("where the byte stands", house.errorOffset(), at);
            }
        }
    }

    private static void appendFull() {
        Document.says(2, "Returns the new length of the buffer.");
        AccentHouse house = new AccentHouse();
        for (int length = 20; length <= 600; length += 20) {
            Check.equal("append", appendSpaces(house), length);
        }

        Document.says(2, "Throws `IllegalStateException` if the buffer would be longer than 600 bytes");
        Check.refused("append to 620 bytes", () -> appendSpaces(house));
        Check.refused("append to 620 bytes once more", () -> appendSpaces(house));
        Check.outside("the buffer is no longer", () -> house.load(601));
        Check.illegal("the buffer is no shorter", () -> house.load(600));
        Check.equal("append to the emptied buffer", appendSpaces(house), 20);
        AccentHouse filled = new AccentHouse();
        String text = Check.HEADER + " ".repeat(600 - Check.HEADER.length() - ";days 3".length()) + ";days 3";
        Check.feed(filled, text);
        Check.refused("append to a text of 600 bytes", () -> filled.append(-1, -1, -1, -1, -1));
        Check.answers("the text is as it was", () -> filled.load(600));
        Check.equal("its last byte is read", filled.day(), 3);
    }

    private static int appendSpaces(AccentHouse house) {
        return house.append(0x20202020, 0x20202020, 0x20202020, 0x20202020, 0x20202020);
    }

    private static void load() {
        Document.says(3, "Parses the first bytes of the input buffer as a description and replaces the whole state by the result.");
        AccentHouse house = new AccentHouse();
        house.moveIn(4, 999, 98765);
        house.advance(7);
        Check.feed(house, "house 7 8;landlady 1 2 3 4 5;days 9");
        Check.answers("load of its first bytes", () -> house.load(28));
        Check.equal("the whole state", Check.state(house), "day 0 rent 7 tolerance 8 landlady 12345 evictions 0"
                + " paid 0 charged 0 settled 0");
        Check.load(house, Check.HEADER + ANN);
        Check.equal("nothing is left of lodgers before", Check.state(house), "day 0 rent 5 tolerance 6 landlady 44444"
                + " evictions 0 paid 0 charged 0 settled 0; ann floor 0 balance 0 accent 44444 lessons 0 slips 0 stayed 0");

        Document.says(3, "The recorded changes and the saved states are discarded.");
        AccentHouse filled = new AccentHouse();
        for (int i = 0; i < 11; i++) {
            filled.pay(0, 1);
        }
        filled.save(0);
        filled.save(1);
        Check.load(filled, Check.HEADER);
        Check.equal("undoCount", filled.undoCount(), 0);
        Check.refused("undo", () -> filled.undo());
        Check.refused("restore of slot 0", () -> filled.restore(0));
        Check.refused("restore of slot 1", () -> filled.restore(1));
        filled.setBaseRent(9);
        Check.equal("undo of a change since", filled.undo() + filled.baseRent(), 5);

        Document.says(3, "The output buffer stays as it is.");
        AccentHouse written = new AccentHouse();
        written.writeLodger(3);
        Check.load(written, Check.HEADER);
        Check.equal("the output", Check.wholeOutput(written), "dot 88004 30");

        Document.says(3, "The input buffer is empty afterwards, also if the text has an error.");
        AccentHouse emptied = new AccentHouse();
        Check.feed(emptied, Check.HEADER + ANN);
        emptied.load(Check.HEADER.length());
        Check.outside("what was not parsed is gone too", () -> emptied.load(1));
        Check.equal("append after a load", appendSpaces(emptied), 20);
        Check.illegal("a text with an error", () -> emptied.load(1));
        Check.outside("nothing is left behind an error", () -> emptied.load(1));
        Check.equal("append after an error", appendSpaces(emptied), 20);
    }

    private static void loadLength() {
        Document.says(3, "- `length`: the number of bytes to parse, 0 to the length of the buffer");
        AccentHouse house = new AccentHouse();
        Check.illegal("0 of an empty buffer is a text", () -> house.load(0));
        Check.equal("its error", house.errorKind() + " " + house.errorOffset(), "1 0");
        Check.feed(house, Check.HEADER + ";");
        Check.illegal("0 of a full buffer", () -> house.load(0));
        Check.equal("its error", house.errorKind() + " " + house.errorOffset(), "1 0");
        Check.feed(house, Check.HEADER);
        Check.answers("the length of the buffer", () -> house.load(40));
        Check.feed(house, Check.HEADER + ";");
        Check.answers("1 less than the text", () -> house.load(Check.HEADER.length()));
        Check.feed(house, Check.HEADER + ";");
        Check.illegal("1 more", () -> house.load(Check.HEADER.length() + 1));

        Document.says(3, "Returns the number of lodgers.");
        Check.equal("none", Check.load(new AccentHouse(), Check.HEADER), 0);
        Check.equal("one", Check.load(new AccentHouse(), Check.HEADER + ANN), 1);
        Check.equal("12", Check.load(new AccentHouse(), Check.HEADER + TWELVE), 12);
        Check.equal("11 of 12 were evicted", Check.load(new AccentHouse(), Check.HEADER + TWELVE + ";pay l 999;days 7"), 1);
    }

    private static void loadWrongLength() {
        Document.says(3, "Throws `IndexOutOfBoundsException` if length is out of range; the input buffer and the reported"
                + " error stay as they are");
        for (int wrong : new int[] {-1, 41, 600, 601, Integer.MIN_VALUE, Integer.MAX_VALUE}) {
            AccentHouse house = new AccentHouse();
            Check.outside("load of 1 from an empty buffer", () -> house.load(1));
            Check.feed(house, "lodger");
            Check.illegal("a text with an error", () -> house.load(6));
            Check.feed(house, "x" + " ".repeat(36) + "cid");
            String before = Check.everything(house);
            Check.outside("load " + wrong, () -> house.load(wrong));
            Check.equal("all after load " + wrong, Check.everything(house), before);
            Check.equal("the reported error", house.errorKind() + " " + house.errorOffset(), "1 0");
            Check.equal("the length of the buffer", appendSpaces(house), 60);
            Check.illegal("the content of the buffer", () -> house.load(60));
        }
        AccentHouse good = new AccentHouse();
        Check.load(good, Check.HEADER);
        Check.outside("load after a good text", () -> good.load(1));
        Check.equal("no error is reported", good.errorKind() + " " + good.errorOffset(), "0 -1");
    }

    private static void loadWithError() {
        Document.says(3, "Throws `IllegalArgumentException` if the text has an error; only the input buffer and the"
                + " reported error change");
        String[] texts = {"", "x", "house 51 0", Check.HEADER + ";pay zoe 1", Check.HEADER + ANN + ANN,
            Check.HEADER + TWELVE + ";lodger", Check.HEADER + FOUR + ";lodger e 0", Check.HEADER + ANN + ";days 100;oops"};
        int[] kinds = {1, 1, 2, 3, 4, 5, 6, 1};
        for (int i = 0; i < texts.length; i++) {
            String text = texts[i];
            AccentHouse house = new AccentHouse();
            house.save(1);
            house.advance(1);
            house.writeFloor(1);
            String before = Check.state(house);
            Check.illegal("load of '" + text + "'", () -> Check.load(house, text));
            Check.equal("the state", Check.state(house), before);
            Check.equal("the output", Check.wholeOutput(house), "cid,dot");
            Check.equal("the kind", house.errorKind(), kinds[i]);
            Check.equal("the input", appendSpaces(house), 20);
            Check.equal("the recorded change", house.undo() + house.day(), 1);
            Check.equal("the saved state", house.restore(1), 1);
            Check.refused("the slot without one", () -> house.restore(0));
        }
    }

    private static void reportedError() {
        AccentHouse house = new AccentHouse();
        Document.says(4, "Returns 1 to 6; 0 if that call found no error or if no text has been parsed yet.");
        Check.equal("before a text", house.errorKind(), 0);
        Check.outside("no text is parsed", () -> house.load(1));
        Check.equal("still before a text", house.errorKind(), 0);
        lineError(1, ";^");
        lineError(2, ";days ^0");
        lineError(3, ";pay ^x 1");
        lineError(4, ANN + ";lodger ^ann");
        lineError(5, TWELVE + ";^lodger");
        lineError(6, FOUR + ";lodger x ^0");
        Check.load(house, Check.HEADER);
        Check.equal("after a good text", house.errorKind(), 0);

        Document.says(5, "Returns the offset in bytes; NONE if errorKind() is 0.");
        Check.equal("after a good text", house.errorOffset(), AccentHouse.NONE);
        Check.equal("before a text", new AccentHouse().errorOffset(), AccentHouse.NONE);
        error(SYNTAX, "^x");
        error(SYNTAX, Check.HEADER + " ".repeat(600 - Check.HEADER.length() - 1) + "^x");
        error(SYNTAX, "house 5 6;landlady 4 4 4 4" + " ".repeat(574) + "^");

        Document.says(4, "Returns the kind of the error that the last call of load() reported.");
        Check.illegal("a first error", () -> Check.load(house, "house 51 6"));
        Check.equal("of kind 2", house.errorKind(), 2);
        Check.illegal("a second error", () -> Check.load(house, Check.HEADER + ";pay x 1"));
        Check.equal("of kind 3", house.errorKind(), 3);

        Document.says(5, "Returns the offset of the error that the last call of load() reported.");
        Check.equal("of the second error", house.errorOffset(), Check.HEADER.length() + 5);
        Check.illegal("a third error", () -> Check.load(house, "house 51 6"));
        Check.equal("of the third error", house.errorOffset(), 6);
        Check.load(house, Check.HEADER);
        Check.equal("none is left after a good text", house.errorKind() + " " + house.errorOffset(), "0 -1");
    }
}
