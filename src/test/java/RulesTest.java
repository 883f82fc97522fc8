/** Promises 14 to 20: rules, speeches. */
public final class RulesTest {

    private static final int NONE = PalaceOfRooms.NONE, UNKNOWN = PalaceOfRooms.UNKNOWN,
            OUTSIDE = PalaceOfRooms.OUTSIDE, NOT = PalaceOfRooms.NOT, FULL = PalaceOfRooms.FULL;
    private static final Due due = new Due();

    public static void main(String[] args) {
        write();
        erase();
        fault();
        rules();
        barsByRoom();
        barsByAgain();
        barsByApart();
        dueRooms();
        laid();
        laidRefusals();
        due.end();
    }

    private static PalaceOfRooms ruled(String text) {
        PalaceOfRooms x = new PalaceOfRooms();
        Due.write(x, text);
        due.is("17: rules() of " + text, x.rules(), text.split(";").length);
        return x;
    }

    private static void write() {
        PalaceOfRooms x = new PalaceOfRooms();
        due.is("14: n 0", x.write(0, 0), OUTSIDE);
        due.is("14: n -1", x.write(0, -1), OUTSIDE);
        due.is("14: n 9", x.write(0, 9), OUTSIDE);
        due.is("14: nothing changed", x.count(5), 0);
        due.is("14: one byte", x.write(Due.packed("again 7 "), 1), 1);
        due.is("14: the lowest first", x.write(Due.packed("gain 7xx"), 6), 7);
        due.is("14: no byte beyond n", x.fault(), NONE);
        due.is("14: a byte above 127", x.write(-1L, 8), 15);
        due.is("14: a byte above 127", x.fault(), 7);
        for (int length = 23; length <= 159; length += 8) {
            due.is("14: eight more", x.write(0, 8), length);
        }
        due.is("14: too many", x.write(0, 2), FULL);
        due.is("14: OUTSIDE goes ahead of FULL", x.write(0, 9), OUTSIDE);
        due.is("14: nothing changed", x.count(5), 159);
        due.is("14: the last one", x.write(0, 1), 160);
        due.is("14: full", x.write(0, 1), FULL);
    }

    private static void erase() {
        PalaceOfRooms x = new PalaceOfRooms();
        due.is("15: empty", x.erase(), 0);
        Due.write(x, "room 0 1;x");
        due.is("15: erase()", x.erase(), 10);
        due.is("15: erase() again", x.erase(), 0);
        due.is("15: bytes", x.count(5), 0);
        Due.write(x, "again 7");
        due.is("15: nothing is left", x.fault(), NONE);
        x.rules();
        Due.write(x, "again 9");
        x.erase();
        due.is("15: THE RULES stay", x.count(6), 1);
    }

    private static void faultAt(String text, int place) {
        PalaceOfRooms x = new PalaceOfRooms();
        Due.write(x, text);
        due.is("16: fault() of '" + text + "'", x.fault(), place);
        due.is("16: THE TEXT stays", x.count(5), text.length());
        due.is("17: rules() of '" + text + "'", x.rules() == NOT ? 1 : 0, place == NONE ? 0 : 1);
        due.is("17: bytes behind it", x.count(5), place == NONE ? 0 : text.length());
    }

    private static void fault() {
        faultAt("", 0);
        faultAt("   ", 3);
        faultAt("room 0 0", NONE);
        faultAt("room 7 8", NONE);
        faultAt("room 8 8", 5);
        faultAt("room 7 9", 7);
        faultAt("room 07 08", NONE);
        faultAt("room 007 8", 5);
        faultAt("room 7 008", 7);
        faultAt("room 7", 6);
        faultAt("room", 4);
        faultAt("room ", 5);
        faultAt("roo", 0);
        faultAt("xoom 1 1", 0);
        faultAt("walk 1 xvery 1", 7);
        faultAt("rooms 1 1", 0);
        faultAt("Room 1 1", 0);
        faultAt("roOm 1 1", 0);
        faultAt("roomX 1 1", 4);
        faultAt("room 1 1 1", 9);
        faultAt("room 1 1 again", 9);
        faultAt("room 1 -1", 7);
        faultAt("room 1,1", 6);
        faultAt("room x", 5);
        faultAt("again 0", 6);
        faultAt("again 1", NONE);
        faultAt("again 99", NONE);
        faultAt("again 100", 6);
        faultAt("again 00", 6);
        faultAt("again 99999999999999999999", 6);
        faultAt("apart 0", NONE);
        faultAt("apart 8", NONE);
        faultAt("apart 9", 6);
        faultAt("apart 10", 6);
        faultAt("walk 0 every 1", NONE);
        faultAt("walk 7 every 99", NONE);
        faultAt("walk 8 every 99", 5);
        faultAt("walk 7 every 0", 13);
        faultAt("walk 7 ever 9", 7);
        faultAt("walk 7 9", 7);
        faultAt("walk 7", 6);
        faultAt("walk 7 every   ", 15);
        faultAt("  room   1   2  ;  again   3  ", NONE);
        faultAt("room1 2;again3;walk1every4", NONE);
        faultAt("room 1 2again 3", 8);
        faultAt("room 1 2;", 9);
        faultAt("room 1 2; ", 10);
        faultAt(";", 0);
        faultAt("room 1 2;;", 9);
        faultAt("room 1 2:again 3", 8);
        faultAt("room 1 2;every 3", 9);
        faultAt("room\t1 2", 4);
        String ten = "again 1;".repeat(9) + "again 1";
        faultAt(ten, NONE);
        faultAt(ten + ";", 79);
        faultAt(ten + " ;again 1", 80);
        faultAt(ten + " x", 80);
        faultAt("again 1;".repeat(20), 79);
        faultAt("a".repeat(160), 0);
        faultAt("apart " + "1".repeat(154), 6);
        faultAt("again 1" + " ".repeat(153), NONE);
        faultAt("again " + " ".repeat(154), 160);
    }

    private static void rules() {
        PalaceOfRooms x = new PalaceOfRooms();
        due.is("17: empty", x.rules(), NOT);
        Due.write(x, "again 4;apart 2;room 0 0");
        due.is("17: fault() makes no RULES", x.fault(), NONE);
        due.is("17: fault() makes no RULES", x.bars(0, 0), 0);
        due.is("17: fault() makes no RULES", x.count(6), 0);
        due.is("17: three LINES", x.rules(), 3);
        due.is("17: THE TEXT is empty", x.count(5), 0);
        due.is("17: LINES", x.count(6), 3);
        due.is("17: they hold", x.bars(0, 0), 1);
        Due.write(x, "room 0 6;again x");
        due.is("17: a FAULT", x.rules(), NOT);
        due.is("17: nothing changed", x.count(6), 3);
        due.is("17: nothing changed", x.bars(0, 0), 1);
        due.is("17: nothing changed", x.count(5), 16);
        x.erase();
        Due.write(x, "walk 0 every 1");
        due.is("17: new RULES", x.rules(), 1);
        due.is("17: the old ones are gone", x.bars(0, 0), 0);
        due.is("17: due()", x.due(), 1);
        Due.write(x, "apart 8");
        x.rules();
        due.is("17: the old ones are gone", x.due(), 0);
        oldRulesStayGone();
    }

    private static void oldRulesStayGone() {
        PalaceOfRooms x = new PalaceOfRooms();
        x.marks(0, 1);
        x.marks(1, 1);
        x.put(0, 0);
        x.put(2, 1);
        String[] texts = {"room 0 0;again 5;apart 0;walk 0 every 1", "room 7 0", "again 1;apart 8", "room 7 0"};
        int[] bars = {7, 0, 2, 0};
        for (int i = 0; i < texts.length; i++) {
            Due.write(x, texts[i]);
            x.rules();
            due.is("17: bars() by " + texts[i], x.bars(1, 1), bars[i]);
            due.is("17: due() by " + texts[i], x.due(), i == 0 ? 1 : 0);
            Due.write(x, "room 0 0;walk 0 every 1;again 9;apart 0;");
            due.is("17: fault() changes nothing", x.fault(), 40);
            due.is("17: fault() changes nothing", x.bars(1, 1), bars[i]);
            x.erase();
        }
    }

    private static void barsByRoom() {
        PalaceOfRooms x = ruled("room 1 2;room 2 0;room 3 1;room 3 5");
        due.is("18: none stands", x.bars(0, 6), 0);
        due.is("18: none may stand", x.bars(0, 12), 1);
        x.put(0, 6);
        due.is("18: one of two", x.bars(1, 11), 0);
        x.put(1, 11);
        due.is("18: two of two", x.bars(2, 8), 1);
        due.is("18: one that stands there counts too", x.bars(1, 8), 1);
        x.put(2, 8);
        due.is("18: three of two", x.bars(3, 9), 1);
        x.put(4, 18);
        due.is("18: the last of a ROOM tells", x.bars(5, 19), 0);
        due.is("18: no LINE for it", x.bars(5, 0), 0);
        due.is("18: bars(24, 0)", x.bars(24, 0), UNKNOWN);
        due.is("18: bars(-1, 0)", x.bars(-1, 0), UNKNOWN);
        due.is("18: bars(0, 48)", x.bars(0, 48), UNKNOWN);
        due.is("18: bars(0, -1)", x.bars(0, -1), UNKNOWN);
    }

    private static void barsByAgain() {
        PalaceOfRooms x = ruled("again 9;again 3");
        due.is("18: never PUT", x.bars(0, 0), 0);
        x.put(0, 0);
        due.is("18: PUT today", x.bars(1, 0), 2);
        due.is("18: another CORNER", x.bars(1, 1), 0);
        x.days(2);
        due.is("18: two DAYS ago", x.bars(1, 0), 2);
        x.clear(0);
        due.is("18: cleared, but PUT", x.bars(1, 0), 2);
        x.days(1);
        due.is("18: three DAYS ago", x.bars(1, 0), 0);
        due.is("18: it bars no put()", x.put(1, 0), NONE);
        due.is("18: PUT on DAY 3", x.bars(2, 0), 2);
        due.is("18: it bars no put()", x.put(2, 0), 1);
    }

    private static void barsByApart() {
        PalaceOfRooms x = ruled("apart 0;apart 1;room 1 1");
        x.marks(0, 0b111);
        x.marks(1, 0b110);
        x.marks(2, 0b100);
        x.put(0, 5);
        due.is("18: behind it", x.bars(1, 4), 4);
        due.is("18: like in no more than 1", x.bars(2, 4), 0);
        due.is("18: two CORNERS off", x.bars(1, 3), 0);
        due.is("18: the same CORNER", x.bars(1, 5), 0);
        due.is("18: another ROOM", x.bars(1, 6), 0);
        x.put(1, 8);
        due.is("18: ahead, and room", x.bars(0, 9), 5);
        due.is("18: behind, and room", x.bars(0, 7), 5);
        x.put(2, 8);
        due.is("18: a GHOST bars not", x.bars(0, 9), 1);
        PalaceOfRooms y = ruled("apart 0");
        y.marks(0, 1);
        y.marks(1, 1);
        y.put(0, 6);
        due.is("18: the last CORNER of the ROOM ahead", y.bars(1, 5), 0);
        due.is("18: the first CORNER", y.bars(1, 0), 0);
        due.is("18: the last CORNER", y.bars(1, 47), 0);
        Due.write(y, "again 5;apart 0;room 1 1");
        y.rules();
        y.put(2, 7);
        due.is("18: all three", y.bars(1, 7), 7);
    }

    private static void dueRooms() {
        PalaceOfRooms x = new PalaceOfRooms();
        due.is("19: no RULES", x.due(), 0);
        x.walk(3);
        Due.write(x, "walk 3 every 9;walk 3 every 2;walk 7 every 99;walk 0 every 1");
        x.rules();
        due.is("19: never, and today", x.due(), 0b10000001);
        x.days(1);
        due.is("19: a DAY ago", x.due(), 0b10000001);
        x.days(1);
        due.is("19: two DAYS ago", x.due(), 0b10001001);
        x.walk(0);
        x.walk(7);
        due.is("19: today", x.due(), 0b00001000);
        x.days(1);
        due.is("19: a DAY ago", x.due(), 0b00001001);
        x.days(60);
        x.days(37);
        due.is("19: 98 DAYS ago", x.due(), 0b00001001);
        x.days(1);
        due.is("19: 99 DAYS ago", x.due(), 0b10001001);
    }

    private static void laidIs(PalaceOfRooms x, long row, int n, int marks, int... order) {
        due.is("20: all MARKS", x.laid(row, n, -1), marks);
        for (int i = 0; i < n; i++) {
            due.is("20: place " + i, x.laid(row, n, i), order[i]);
        }
        due.is("20: not so many", x.laid(row, n, n), NONE);
        due.is("20: not so many", x.laid(row, n, Integer.MAX_VALUE), NONE);
    }

    private static void laid() {
        PalaceOfRooms x = new PalaceOfRooms();
        laidIs(x, Due.row(23), 1, 0, 23);
        laidIs(x, Due.row(9, 3, 7, 1), 4, 0, 1, 3, 7, 9);
        laidIs(x, Due.row(7, 6, 5, 4, 3, 2, 1, 0), 8, 0, 0, 1, 2, 3, 4, 5, 6, 7);
        x.marks(1, 0b1111);
        x.marks(2, 0b1111);
        x.marks(3, 0b0011);
        x.marks(4, 0b0001);
        laidIs(x, Due.row(1, 2), 2, 4, 1, 2);
        laidIs(x, Due.row(1, 2, 3), 3, 4, 1, 3, 2);
        laidIs(x, Due.row(2, 4, 1, 3), 4, 4, 1, 3, 4, 2);
        laidIs(x, Due.row(1, 2, 0), 3, 0, 1, 0, 2);
        int[] ring = {0b00000011, 0b00000110, 0b00001100, 0b00011000, 0b00110000};
        for (int k = 0; k < ring.length; k++) {
            x.marks(16 + k, ring[k]);
        }
        laidIs(x, Due.row(20, 19, 18, 17, 16), 5, 0, 16, 18, 20, 17, 19);
        for (int thing = 8; thing < 16; thing++) {
            x.marks(thing, 255);
        }
        laidIs(x, Due.row(15, 14, 13, 12, 11, 10, 9, 8), 8, 56, 8, 9, 10, 11, 12, 13, 14, 15);
        due.is("20: what is beyond n does not count", x.laid(Due.row(1, 2, 31, 31), 2, 0), 1);
    }

    private static void laidRefusals() {
        PalaceOfRooms x = new PalaceOfRooms();
        due.is("20: n 0", x.laid(0, 0, 0), OUTSIDE);
        due.is("20: n -1", x.laid(31, -1, 0), OUTSIDE);
        due.is("20: n 9", x.laid(Due.row(0, 1, 2, 3, 4, 5, 6, 7, 8), 9, 0), OUTSIDE);
        due.is("20: n most", x.laid(0, Integer.MAX_VALUE, 0), OUTSIDE);
        due.is("20: two alike", x.laid(Due.row(1, 2, 1), 3, 0), OUTSIDE);
        due.is("20: two alike, not so many", x.laid(Due.row(1, 1), 2, 2), OUTSIDE);
        due.is("20: i -2", x.laid(Due.row(1, 2), 2, -2), OUTSIDE);
        due.is("20: THING 24, the first", x.laid(Due.row(24, 1), 2, 0), UNKNOWN);
        due.is("20: THING 24", x.laid(Due.row(1, 24), 2, 0), UNKNOWN);
        due.is("20: UNKNOWN goes ahead of two alike", x.laid(Due.row(1, 1, 31), 3, 0), UNKNOWN);
        due.is("20: UNKNOWN goes ahead of i", x.laid(Due.row(1, 31), 2, -2), UNKNOWN);
        due.is("20: UNKNOWN goes ahead of not so many", x.laid(Due.row(1, 31), 2, 5), UNKNOWN);
    }
}
