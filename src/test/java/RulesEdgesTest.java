/** Promises 14 to 20 at their edges: bytes, TOKENS, LINES, what BARS and what is DUE, rows that are LAID OUT. */
public final class RulesEdgesTest {

    private static final int NONE = PalaceOfRooms.NONE, NOT = PalaceOfRooms.NOT, FULL = PalaceOfRooms.FULL;
    private static final Due due = new Due();

    public static void main(String[] args) {
        bytesOneByOne();
        bytesBeyondN();
        bytesUpToTheLast();
        eraseTheEmptyAndTheFull();
        numbersOfEachPlace();
        numbersOfThreeDigits();
        byteAlone();
        byteBehindALine();
        byteWithinAWord();
        byteForANumber();
        endTooSoon();
        wordsOneLetterOff();
        blanksBetweenTokens();
        linesFromOneToTen();
        linesBehindTheTenth();
        textThatIsFull();
        rulesTakeThePlaceOfRules();
        roomFromNoneToEight();
        roomOfStrengthNone();
        againAtItsLastDay();
        apartFromNoneToEight();
        apartAtTheEndsOfRooms();
        apartOnBothSides();
        barsTogether();
        dueAtItsFirstDay();
        dueOfAllRooms();
        lastLineTells();
        laidOne();
        laidEight();
        laidOfSeveral();
        laidWithTheLeastBetween();
        laidAfterLongerRows();
        due.end();
    }

    private static int faultOf(String text) {
        PalaceOfRooms x = new PalaceOfRooms();
        Due.write(x, text);
        int fault = x.fault();
        due.is("16: fault() leaves '" + text + "'", x.count(5), text.length());
        int rules = x.rules();
        due.is("17: rules() is NOT if there is a FAULT: '" + text + "'", rules == NOT ? 1 : 0, fault == NONE ? 0 : 1);
        due.is("17: it empties THE TEXT if not", x.count(5), fault == NONE ? 0 : text.length());
        return fault;
    }

    private static void faultIs(String text, int place) {
        due.is("16: FAULT of '" + text + "'", faultOf(text), place);
    }

    private static void bytesOneByOne() {
        String text = "walk 7 every 99;x";
        for (int n = 1; n <= 8; n++) {
            PalaceOfRooms x = new PalaceOfRooms();
            for (int from = 0; from < text.length(); from += n) {
                String piece = text.substring(from, Math.min(text.length(), from + n));
                due.is("14: bytes", x.write(Due.packed(piece), piece.length()), from + piece.length());
            }
            due.is("14: they stand in order, " + n + " at once", x.fault(), 16);
        }
    }

    private static void bytesBeyondN() {
        for (int n = 1; n <= 7; n++) {
            PalaceOfRooms x = new PalaceOfRooms();
            String piece = "apart 8";
            x.write(Due.packed(piece.substring(0, n)) | -1L << 8 * n, n);
            due.is("14: only n bytes", x.count(5), n);
            Due.write(x, piece.substring(n));
            due.is("14: what is above them does not count", x.fault(), NONE);
        }
        PalaceOfRooms x = new PalaceOfRooms();
        x.write(Due.packed("apart 8") | 128L << 56, 8);
        due.is("14: the highest byte", x.fault(), 7);
        PalaceOfRooms y = new PalaceOfRooms();
        y.write(Due.packed("apart 8 "), 8);
        due.is("14: the highest byte", y.fault(), NONE);
    }

    private static void bytesUpToTheLast() {
        PalaceOfRooms x = new PalaceOfRooms();
        for (int bytes = 8; bytes <= 160; bytes += 8) {
            due.is("14: eight bytes more", x.write(0, 8), bytes);
        }
        due.is("14: no byte more", x.write(0, 1), FULL);
        due.is("14: bytes", x.count(5), 160);
        PalaceOfRooms y = new PalaceOfRooms();
        for (int bytes = 1; bytes <= 160; bytes++) {
            due.is("14: one byte more", y.write(0, 1), bytes);
        }
        due.is("14: no byte more", y.write(0, 1), FULL);
    }

    private static void eraseTheEmptyAndTheFull() {
        PalaceOfRooms x = new PalaceOfRooms();
        due.is("15: the empty", x.erase(), 0);
        Due.write(x, "x".repeat(160));
        due.is("15: the full", x.erase(), 160);
        due.is("15: it is empty", x.fault(), 0);
        due.is("15: it is empty", x.erase(), 0);
        due.is("15: there is room", x.write(Due.packed("again 1"), 7), 7);
        due.is("15: nothing of it is left", x.fault(), NONE);
        due.is("15: one byte", x.write('x', 1), 8);
        due.is("15: eight bytes", x.erase(), 8);
    }

    /** Each number of one and of two digits, at each place: the last that may stand there, and the first that may not. */
    private static void numbersOfEachPlace() {
        for (int v = 0; v <= 99; v++) {
            for (String number : new String[] {"" + v, (v < 10 ? "0" : "") + v}) {
                faultIs("room " + number + " 0", v <= 7 ? NONE : 5);
                faultIs("room 7 " + number, v <= 8 ? NONE : 7);
                faultIs("again " + number, v >= 1 ? NONE : 6);
                faultIs("apart " + number, v <= 8 ? NONE : 6);
                faultIs("walk " + number + " every 1", v <= 7 ? NONE : 5);
                faultIs("walk 0 every " + number, v >= 1 ? NONE : 13);
            }
        }
    }

    private static void numbersOfThreeDigits() {
        for (String number : new String[] {"000", "001", "007", "010", "100", "099", "0000000001", "4294967297"}) {
            faultIs("room " + number + " 0", 5);
            faultIs("room 7 " + number, 7);
            faultIs("again " + number, 6);
            faultIs("apart " + number, 6);
            faultIs("walk " + number + " every 1", 5);
            faultIs("walk 0 every " + number, 13);
        }
    }

    private static String sign(int b) {
        return String.valueOf((char) b);
    }

    private static boolean isLetter(int b) {
        return b >= 'a' && b <= 'z';
    }

    private static boolean isDigit(int b) {
        return b >= '0' && b <= '9';
    }

    private static void byteAlone() {
        for (int b = 0; b < 256; b++) {
            faultIs(sign(b), b == ' ' ? 1 : 0);
            faultIs(sign(b) + "apart 8", b == ' ' ? NONE : 0);
        }
    }

    private static void byteBehindALine() {
        for (int b = 0; b < 256; b++) {
            faultIs("again 1" + sign(b), b == ';' ? 8 : b == ' ' || isDigit(b) ? NONE : 7);
            faultIs("apart 1" + sign(b), b == ';' ? 8 : b == ' ' ? NONE : isDigit(b) ? 6 : 7);
            faultIs("again 1 " + sign(b), b == ';' ? 9 : b == ' ' ? NONE : 8);
            faultIs("again 1" + sign(b) + "apart 1", b == ';' ? NONE : b == ' ' || isDigit(b) ? 8 : 7);
        }
    }

    /** A letter makes another word of it, a byte that is none cuts it in two. */
    private static void byteWithinAWord() {
        for (int b = 0; b < 256; b++) {
            faultIs("ro" + sign(b) + "om 1 1", 0);
            faultIs(sign(b) + "room 1 1", b == ' ' ? NONE : 0);
            int behind = b == ' ' ? NONE : isLetter(b) ? 0 : isDigit(b) ? b <= '7' ? NONE : 4 : 4;
            faultIs("room" + sign(b) + (isDigit(b) ? " 1" : "1 1"), behind);
            faultIs("walk 1 ev" + sign(b) + "ery 1", 7);
        }
    }

    private static void byteForANumber() {
        for (int b = 0; b < 256; b++) {
            faultIs("room " + sign(b) + " 1", b == ' ' ? 8 : isDigit(b) && b <= '7' ? NONE : 5);
            faultIs("room 1 " + sign(b), b == ' ' ? 8 : isDigit(b) && b <= '8' ? NONE : 7);
            faultIs("again " + sign(b), b == ' ' ? 7 : isDigit(b) && b != '0' ? NONE : 6);
            faultIs("walk 1 " + sign(b) + " 1", b == ' ' ? 9 : 7);
        }
    }

    /** Cut behind each byte: a word cut short is the FAULT, what ends between TOKENS is one at its end. */
    private static void endTooSoon() {
        int[] room = {0, 0, 0, 0, 4, 5, 6, 7};
        int[] again = {0, 0, 0, 0, 0, 5, 6};
        int[] walk = {0, 0, 0, 0, 4, 5, 6, 7, 7, 7, 7, 7, 12, 13};
        cutShort("room 1 2", room);
        cutShort("again 3", again);
        cutShort("apart 4", again);
        cutShort("walk 1 every 9", walk);
    }

    private static void cutShort(String line, int[] faults) {
        for (int length = 0; length < line.length(); length++) {
            faultIs(line.substring(0, length), faults[length]);
            faultIs("again 5;" + line.substring(0, length), 8 + faults[length]);
        }
        faultIs(line, NONE);
    }

    private static void wordsOneLetterOff() {
        String[] lines = {"room 1 2", "again 3", "apart 4", "walk 1 every 9"};
        for (String line : lines) {
            for (int at = 0; at < line.length(); at++) {
                if (isLetter(line.charAt(at))) {
                    int word = line.lastIndexOf(' ', at) + 1;
                    for (char other : new char[] {'a' == line.charAt(at) ? 'b' : 'a', 'z'}) {
                        faultIs(line.substring(0, at) + other + line.substring(at + 1), word);
                    }
                    char capital = (char) (line.charAt(at) - 32);
                    faultIs(line.substring(0, at) + capital + line.substring(at + 1), word);
                }
            }
        }
        for (String word : new String[] {"rooms", "agains", "aparts", "walks", "roo", "every", "room room", "a"}) {
            faultIs(word + " 1 1", word.equals("room room") ? 5 : 0);
        }
    }

    private static void blanksBetweenTokens() {
        String[] tokens = {"room", "7", "8", ";", "walk", "0", "every", "99", ";", "again", "1", ";", "apart", "0"};
        for (int blanks = 0; blanks <= 7; blanks++) {
            String between = " ".repeat(blanks);
            StringBuilder text = new StringBuilder(between);
            for (int i = 0; i < tokens.length; i++) {
                // Two numbers side by side would be one.
                text.append(tokens[i]).append(blanks == 0 && i == 1 ? " " : between);
            }
            faultIs(text.toString(), NONE);
            faultIs(text + "x", text.length());
        }
    }

    private static void linesFromOneToTen() {
        for (int lines = 1; lines <= 10; lines++) {
            PalaceOfRooms x = new PalaceOfRooms();
            Due.write(x, "again 1;".repeat(lines - 1) + "again 1");
            due.is("16: " + lines + " LINES", x.fault(), NONE);
            due.is("17: " + lines + " LINES", x.rules(), lines);
            due.is("33: " + lines + " LINES", x.count(6), lines);
            due.is("17: THE TEXT is empty then", x.count(5), 0);
            due.is("17: the empty is none", x.rules(), NOT);
            due.is("33: LINES stay", x.count(6), lines);
        }
    }

    private static void linesBehindTheTenth() {
        String ten = "again 1;".repeat(9) + "again 1";
        faultIs(ten + ";", 79);
        faultIs(ten + ";again 1", 79);
        faultIs(ten + ";;", 79);
        faultIs(ten + "  ;apart 0", 81);
        faultIs("again 1;".repeat(9), 72);
        faultIs("again 1;".repeat(9) + "again", 77);
        faultIs("again 1;".repeat(9) + ";", 72);
        faultIs("x;" + ten + ";again 1", 0);
    }

    private static void textThatIsFull() {
        String ten = "walk 7 every 99;".repeat(9) + "walk 7 every 99";
        faultIs(ten + " ", NONE);
        faultIs(" " + ten, NONE);
        faultIs(ten + ";", 159);
        faultIs("walk 7 every 99;".repeat(10), 159);
        faultIs(" ".repeat(160), 160);
        faultIs(" ".repeat(159) + "x", 159);
        faultIs(" ".repeat(155) + "again", 160);
        faultIs(" ".repeat(153) + "again 9", NONE);
        faultIs(" ".repeat(152) + "again 99", NONE);
        faultIs(" ".repeat(151) + "again 100", 157);
        faultIs("z".repeat(160), 0);
        faultIs("1".repeat(160), 0);
        faultIs(";".repeat(160), 0);
    }

    private static void rulesTakeThePlaceOfRules() {
        PalaceOfRooms x = Palaces.ruled("room 0 0;room 7 0;walk 0 every 1;walk 7 every 1");
        due.is("17: they tell", x.bars(0, 0) + x.bars(0, 47), 2);
        due.is("17: they tell", x.due(), 129);
        Palaces.rule(x, "again 1");
        due.is("17: room is gone", x.bars(0, 0) + x.bars(0, 47), 0);
        due.is("17: walk is gone", x.due(), 0);
        x.marks(0, 1);
        x.marks(1, 1);
        x.put(0, 0);
        due.is("17: again tells", x.bars(1, 0), 2);
        Palaces.rule(x, "apart 0");
        due.is("17: again is gone", x.bars(1, 0), 0);
        due.is("17: apart tells", x.bars(1, 1), 4);
        Palaces.rule(x, "room 3 1");
        due.is("17: apart is gone", x.bars(1, 1), 0);
        due.is("17: again does not come back", x.bars(1, 0), 0);
        due.is("33: LINES of THE RULES", x.count(6), 1);
    }

    private static void roomFromNoneToEight() {
        for (int room = 0; room < 8; room += 7) {
            for (int told = 0; told <= 8; told++) {
                PalaceOfRooms x = Palaces.ruled("room " + room + " " + told);
                for (int standing = 0; standing <= 6; standing++) {
                    int bars = standing >= told ? 1 : 0;
                    due.is("18: room " + told + ", stand " + standing, x.bars(23, 6 * room), bars);
                    due.is("18: room " + told + ", stand " + standing, x.bars(0, 6 * room + 5), bars);
                    due.is("18: another ROOM", x.bars(23, 6 * room == 0 ? 6 : 41), 0);
                    if (standing < 6) {
                        x.put(standing, 6 * room + standing);
                    }
                }
            }
        }
    }

    private static void roomOfStrengthNone() {
        PalaceOfRooms x = Palaces.ruled("room 0 1");
        x.put(0, 0);
        x.put(1, 0);
        x.days(60);
        due.is("18: ON TOP with 0 stands", x.bars(2, 3), 1);
        x.clear(0);
        due.is("18: none stands", x.bars(2, 3), 0);
        Palaces.rule(x, "room 0 2");
        x.put(0, 0);
        x.put(1, 0);
        due.is("18: a GHOST does not stand", x.bars(2, 3), 0);
    }

    private static void againAtItsLastDay() {
        for (int told : new int[] {1, 2, 60, 61, 98, 99}) {
            PalaceOfRooms x = Palaces.ruled("again " + told);
            due.is("18: never PUT", x.bars(1, 47), 0);
            x.days(5);
            due.is("18: never PUT", x.bars(1, 47), 0);
            x.put(0, 47);
            for (int day = 0; day < told; day++) {
                due.is("18: again " + told + ", DAYS ago " + day, x.bars(1, 47), 2);
                x.days(1);
            }
            due.is("18: again " + told + ", as many DAYS ago", x.bars(1, 47), 0);
            x.put(1, 47);
            due.is("18: PUT there last", x.bars(0, 47), 2);
            due.is("18: where none was PUT", x.bars(0, 46), 0);
        }
    }

    private static void apartFromNoneToEight() {
        for (int told = 0; told <= 8; told++) {
            PalaceOfRooms x = Palaces.ruled("apart " + told);
            x.marks(0, 255);
            x.put(0, 2);
            for (int marks = 0; marks <= 8; marks++) {
                x.marks(1, (1 << marks) - 1);
                due.is("18: apart " + told + ", LIKE in " + marks, x.bars(1, 1), marks > told ? 4 : 0);
                due.is("18: apart " + told + ", LIKE in " + marks, x.bars(1, 3), marks > told ? 4 : 0);
                due.is("18: two CORNERS off", x.bars(1, 0) + x.bars(1, 4), 0);
                due.is("18: in the CORNER itself", x.bars(1, 2), 0);
            }
        }
    }

    /** In each CORNER one THING stands: only CORNERS beside it in its ROOM are barred. */
    private static void apartAtTheEndsOfRooms() {
        for (int stands = 0; stands < 48; stands++) {
            PalaceOfRooms x = Palaces.ruled("apart 0");
            x.marks(0, 1);
            x.marks(1, 1);
            x.put(0, stands);
            for (int corner = 0; corner < 48; corner++) {
                boolean beside = corner / 6 == stands / 6 && Math.abs(corner - stands) == 1;
                due.is("18: CORNER " + corner + " by " + stands, x.bars(1, corner), beside ? 4 : 0);
            }
        }
    }

    private static void apartOnBothSides() {
        PalaceOfRooms x = Palaces.ruled("apart 1");
        x.marks(0, 0b0011);
        x.marks(1, 0b1100);
        x.put(0, 0);
        x.put(1, 2);
        int[] marks = {0b0101, 0b0011, 0b1100, 0b1111};
        int[] bars = {0, 4, 4, 4};
        for (int i = 0; i < marks.length; i++) {
            x.marks(2, marks[i]);
            due.is("18: between two", x.bars(2, 1), bars[i]);
        }
        x.days(60);
        due.is("18: also of STRENGTH 0", x.bars(2, 1), 4);
        x.put(3, 0);
        x.put(4, 2);
        due.is("18: not of GHOSTS", x.bars(2, 1), 0);
    }

    private static void barsTogether() {
        for (int all = 0; all < 8; all++) {
            boolean room = (all & 1) != 0;
            boolean again = (all & 2) != 0;
            boolean apart = (all & 4) != 0;
            PalaceOfRooms x = Palaces.ruled("room 0 " + (room ? 2 : 3) + ";again 1" + ";apart " + (apart ? 7 : 8));
            x.marks(0, 255);
            x.marks(1, 255);
            if (!again) {
                x.put(2, 3);
                x.days(1);
            }
            x.put(0, 4);
            if (again) {
                x.put(2, 3);
            }
            due.is("18: these together", x.bars(1, 3), all);
        }
    }

    private static void dueAtItsFirstDay() {
        for (int told : new int[] {1, 2, 60, 61, 98, 99}) {
            for (int room = 0; room < 8; room += 7) {
                PalaceOfRooms x = Palaces.ruled("walk " + room + " every " + told);
                due.is("19: never", x.due(), 1 << room);
                x.days(1);
                due.is("19: never", x.due(), 1 << room);
                x.walk(7 - room);
                due.is("19: another one was", x.due(), 1 << room);
                x.walk(room);
                for (int day = 0; day < told; day++) {
                    due.is("19: every " + told + ", DAYS ago " + day, x.due(), 0);
                    x.days(1);
                }
                due.is("19: every " + told + ", as many DAYS ago", x.due(), 1 << room);
                x.days(1);
                due.is("19: more DAYS ago", x.due(), 1 << room);
                x.walk(room);
                due.is("19: WALKED today", x.due(), 0);
            }
        }
    }

    private static void dueOfAllRooms() {
        StringBuilder text = new StringBuilder();
        for (int room = 0; room < 8; room++) {
            text.append(room == 0 ? "" : ";").append("walk ").append(room).append(" every 1");
        }
        PalaceOfRooms x = new PalaceOfRooms();
        due.is("19: without RULES", x.due(), 0);
        Palaces.rule(x, text.toString());
        int left = 255;
        due.is("19: all", x.due(), left);
        for (int room = 0; room < 8; room++) {
            x.walk(room);
            left -= 1 << room;
            due.is("19: all but those WALKED", x.due(), left);
        }
        x.days(1);
        due.is("19: all", x.due(), 255);
        PalaceOfRooms y = Palaces.LAST_DAY.make();
        due.is("19: on DAY 400, WALKED on it, and never", y.due(), 2);
    }

    private static void lastLineTells() {
        PalaceOfRooms x = Palaces.ruled("room 0 0;room 1 6;again 9;apart 0;again 1;apart 8;room 0 6;room 1 0");
        x.marks(0, 255);
        x.marks(1, 255);
        x.put(0, 0);
        due.is("18: the last apart", x.bars(1, 1), 0);
        due.is("18: the last room of each ROOM", x.bars(1, 2), 0);
        due.is("18: the last room of each ROOM", x.bars(1, 6), 1);
        x.days(1);
        due.is("18: the last again", x.bars(1, 0), 0);
        PalaceOfRooms y = Palaces.ruled("walk 0 every 1;walk 1 every 2;walk 0 every 3;walk 1 every 1");
        y.walk(0);
        y.walk(1);
        y.days(1);
        due.is("19: the last walk of each ROOM", y.due(), 2);
        y.days(1);
        due.is("19: the last walk of each ROOM", y.due(), 2);
        y.days(1);
        due.is("19: the last walk of each ROOM", y.due(), 3);
    }

    private static void laidOne() {
        PalaceOfRooms x = new PalaceOfRooms();
        for (int thing = 0; thing < 24; thing++) {
            x.marks(thing, 255);
            due.is("20: one THING has no neighbour", x.laid(thing, 1, -1), 0);
            due.is("20: one THING", x.laid(thing, 1, 0), thing);
            due.is("20: there are not so many", x.laid(thing, 1, 1), NONE);
        }
        due.is("20: two THINGS", x.laid(Due.row(1, 0), 2, -1), 8);
        due.is("20: two THINGS", x.laid(Due.row(1, 0), 2, 0), 0);
        due.is("20: two THINGS", x.laid(Due.row(1, 0), 2, 1), 1);
        due.is("20: there are not so many", x.laid(Due.row(1, 0), 2, 2), NONE);
    }

    /** MARKS in a chain: two THINGS side by side in it are LIKE in one, others in none. */
    private static void laidEight() {
        PalaceOfRooms x = new PalaceOfRooms();
        for (int k = 0; k < 8; k++) {
            x.marks(16 + k, k == 0 ? 1 : 3 << k - 1);
        }
        long row = Due.row(23, 16, 22, 17, 21, 18, 20, 19);
        due.is("20: no neighbours are LIKE", x.laid(row, 8, -1), 0);
        int[] first = firstWithoutLike();
        for (int i = 0; i < 8; i++) {
            due.is("20: the first of several", x.laid(row, 8, i), first[i]);
        }
        due.is("20: there are not so many", x.laid(row, 8, 8), NONE);
    }

    /** The first order of 16 .. 23 in which no two side by side differ by one. */
    private static int[] firstWithoutLike() {
        int[] order = new int[8];
        seek(order, 0);
        return order;
    }

    private static boolean seek(int[] order, int at) {
        if (at == 8) {
            return true;
        }
        for (int thing = 16; thing < 24; thing++) {
            boolean free = at == 0 || Math.abs(order[at - 1] - thing) != 1;
            for (int i = 0; i < at; i++) {
                free &= order[i] != thing;
            }
            order[at] = thing;
            if (free && seek(order, at + 1)) {
                return true;
            }
        }
        return false;
    }

    private static void laidOfSeveral() {
        PalaceOfRooms x = new PalaceOfRooms();
        for (int n = 1; n <= 8; n++) {
            int[] down = new int[n];
            for (int k = 0; k < n; k++) {
                down[k] = 23 - k;
            }
            due.is("20: nothing is LIKE", x.laid(Due.row(down), n, -1), 0);
            for (int i = 0; i < n; i++) {
                due.is("20: of several the first by THINGS", x.laid(Due.row(down), n, i), 24 - n + i);
            }
        }
        x.marks(0, 255);
        x.marks(1, 255);
        x.marks(2, 1);
        due.is("20: the least", x.laid(Due.row(0, 1, 2), 3, -1), 2);
        due.is("20: the same either way: the first", x.laid(Due.row(1, 2, 0), 3, 0), 0);
        x.marks(1, 254);
        due.is("20: the least", x.laid(Due.row(0, 1, 2), 3, -1), 1);
        due.is("20: the first of the least", x.laid(Due.row(1, 0, 2), 3, 0), 0);
        due.is("20: the first of the least", x.laid(Due.row(1, 0, 2), 3, 1), 2);
        due.is("20: the first of the least", x.laid(Due.row(1, 0, 2), 3, 2), 1);
    }

    /** The least THING is LIKE none: between two that are LIKE one another it stands best, so another one begins. */
    private static void laidWithTheLeastBetween() {
        PalaceOfRooms x = new PalaceOfRooms();
        for (int thing = 1; thing < 4; thing++) {
            x.marks(thing, 255);
        }
        int[] between = {1, 0, 2};
        due.is("20: MARKS", x.laid(Due.row(2, 1, 0), 3, -1), 0);
        for (int i = 0; i < 3; i++) {
            due.is("20: 0 between 1 and 2", x.laid(Due.row(2, 1, 0), 3, i), between[i]);
        }
        due.is("20: of four, two that are LIKE stand side by side", x.laid(Due.row(3, 2, 1, 0), 4, -1), 8);
        x.marks(1, 0);
        due.is("20: 0 and 1 are LIKE none", x.laid(Due.row(3, 2, 1, 0), 4, -1), 0);
        due.is("20: 0 begins again", x.laid(Due.row(3, 2, 1, 0), 4, 0), 0);
        due.is("20: 2 behind it", x.laid(Due.row(3, 2, 1, 0), 4, 1), 2);
        due.is("20: 1 between 2 and 3", x.laid(Due.row(3, 2, 1, 0), 4, 2), 1);
    }

    private static void laidAfterLongerRows() {
        PalaceOfRooms x = new PalaceOfRooms();
        for (int thing = 0; thing < 8; thing++) {
            x.marks(thing, 255);
        }
        for (int n = 8; n >= 1; n--) {
            due.is("20: " + n + " behind longer rows", x.laid(Due.row(7, 6, 5, 4, 3, 2, 1, 0), n, -1), 8 * (n - 1));
            due.is("20: the first of " + n, x.laid(Due.row(7, 6, 5, 4, 3, 2, 1, 0), n, 0), 8 - n);
        }
    }
}
