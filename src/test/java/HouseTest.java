/** Promises 1 to 13: the house. */
public final class HouseTest {

    private static final int NONE = PalaceOfRooms.NONE, UNKNOWN = PalaceOfRooms.UNKNOWN,
            OUTSIDE = PalaceOfRooms.OUTSIDE, NOT = PalaceOfRooms.NOT, FULL = PalaceOfRooms.FULL;
    private static final int[] WILD = {-1, Integer.MIN_VALUE, Integer.MAX_VALUE};
    private static final Due due = new Due();

    public static void main(String[] args) {
        newObject();
        door();
        away();
        marks();
        like();
        set();
        fall();
        put();
        putOverTheWeakest();
        clear();
        corner();
        where();
        days();
        fasterBesideLikeOnes();
        ghostsFall();
        walk();
        due.end();
    }

    private static void newObject() {
        PalaceOfRooms x = new PalaceOfRooms();
        for (int what = 0; what <= 6; what++) {
            due.is("1: count(" + what + ")", x.count(what), 0);
        }
        for (int corner = 0; corner < 48; corner++) {
            for (int what = 0; what <= 4; what++) {
                due.is("1: corner(" + corner + ", " + what + ")", x.corner(corner, what), NONE);
            }
        }
        for (int thing = 0; thing < 24; thing++) {
            due.is("1: where(" + thing + ")", x.where(thing), NONE);
            due.is("1: like(" + thing + ")", x.like(thing, thing), 0);
        }
        due.is("1: TELL", x.set(0, 4), 4);
        due.is("1: GAIN", x.set(1, 50), 50);
        for (int klass = 0; klass <= 10; klass++) {
            due.is("1: FALL " + klass, x.fall(klass, 5), 5);
        }
        PalaceOfRooms y = new PalaceOfRooms();
        x.put(0, 0);
        due.is("1: two objects share nothing", y.where(0), NONE);
    }

    private static void door() {
        PalaceOfRooms x = new PalaceOfRooms();
        due.is("2: door(0, 1)", x.door(0, 1), 1);
        due.is("2: door(0, 1) again", x.door(0, 1), NOT);
        due.is("2: door(1, 0)", x.door(1, 0), NOT);
        due.is("2: door(7, 7)", x.door(7, 7), UNKNOWN);
        due.is("2: door(8, 8)", x.door(8, 8), UNKNOWN);
        due.is("2: door(8, 0)", x.door(8, 0), UNKNOWN);
        for (int room : WILD) {
            due.is("2: door(wild, 0)", x.door(room, 0), UNKNOWN);
            due.is("2: door(0, wild)", x.door(0, room), UNKNOWN);
        }
        due.is("2: doors", x.count(1), 1);
        int doors = 1;
        for (int b = 2; b < 8; b++) {
            due.is("2: door(0, b)", x.door(0, b), ++doors);
        }
        for (int b = 2; b < 8; b++) {
            due.is("2: door(1, b)", x.door(b, 1), ++doors);
        }
        due.is("2: the fourteenth", x.door(6, 7), 14);
        due.is("2: NOT goes ahead of FULL", x.door(7, 6), NOT);
        due.is("2: UNKNOWN goes ahead of FULL", x.door(5, 5), UNKNOWN);
        due.is("2: the fifteenth", x.door(2, 3), FULL);
        due.is("2: nothing changed", x.away(2, 3), 2);
        due.is("2: doors", x.count(1), 14);
    }

    private static void away() {
        PalaceOfRooms x = new PalaceOfRooms();
        for (int room = 0; room < 7; room++) {
            x.door(room, room + 1);
            due.is("3: a row", x.away(0, room + 1), room + 1);
            due.is("3: a row, back", x.away(room + 1, 0), room + 1);
        }
        x.door(7, 0);
        due.is("3: round", x.away(0, 7), 1);
        due.is("3: round", x.away(0, 5), 3);
        due.is("3: round", x.away(0, 4), 4);
        due.is("3: round", x.away(6, 1), 3);
        due.is("3: itself", x.away(5, 5), 0);
        due.is("3: away(0, 8)", x.away(0, 8), UNKNOWN);
        for (int room : WILD) {
            due.is("3: away(wild, 0)", x.away(room, 0), UNKNOWN);
            due.is("3: away(0, wild)", x.away(0, room), UNKNOWN);
        }
        PalaceOfRooms y = new PalaceOfRooms();
        y.door(6, 7);
        y.door(0, 1);
        due.is("3: no way", y.away(0, 7), NONE);
        y.door(7, 1);
        due.is("3: two parts joined", y.away(6, 0), 3);
    }

    private static void marks() {
        PalaceOfRooms x = new PalaceOfRooms();
        due.is("4: marks(23, 255)", x.marks(23, 255), 0);
        due.is("4: marks(23, 256)", x.marks(23, 256), OUTSIDE);
        due.is("4: marks(23, -1)", x.marks(23, -1), OUTSIDE);
        due.is("4: marks(24, 256)", x.marks(24, 256), UNKNOWN);
        due.is("4: marks(-1, 0)", x.marks(-1, 0), UNKNOWN);
        due.is("4: marks(23, 0)", x.marks(23, 0), 255);
        due.is("4: marks(23, 1)", x.marks(23, 1), 0);
        due.is("4: marks(0, 1)", x.marks(0, 1), 0);
    }

    private static void like() {
        PalaceOfRooms x = new PalaceOfRooms();
        x.marks(0, 0b11110000);
        x.marks(1, 0b10101010);
        x.marks(2, 0b00001111);
        due.is("5: like(0, 1)", x.like(0, 1), 2);
        due.is("5: like(1, 0)", x.like(1, 0), 2);
        due.is("5: like(0, 2)", x.like(0, 2), 0);
        due.is("5: like(0, 0)", x.like(0, 0), 4);
        due.is("5: like(0, 3)", x.like(0, 3), 0);
        due.is("5: like(24, 0)", x.like(24, 0), UNKNOWN);
        due.is("5: like(0, -1)", x.like(0, -1), UNKNOWN);
    }

    private static void set() {
        PalaceOfRooms x = new PalaceOfRooms();
        due.is("6: set(0, 8)", x.set(0, 8), 4);
        due.is("6: set(0, 9)", x.set(0, 9), OUTSIDE);
        due.is("6: set(0, 0)", x.set(0, 0), OUTSIDE);
        due.is("6: set(0, 1)", x.set(0, 1), 8);
        due.is("6: set(0, 4)", x.set(0, 4), 1);
        due.is("6: set(1, 100)", x.set(1, 100), 50);
        due.is("6: set(1, 101)", x.set(1, 101), OUTSIDE);
        due.is("6: set(1, -1)", x.set(1, -1), OUTSIDE);
        due.is("6: set(1, 0)", x.set(1, 0), 100);
        due.is("6: set(1, 50)", x.set(1, 50), 0);
        due.is("6: set(2, 5)", x.set(2, 5), OUTSIDE);
        due.is("6: set(-1, 5)", x.set(-1, 5), OUTSIDE);
    }

    private static void fall() {
        PalaceOfRooms x = new PalaceOfRooms();
        due.is("7: fall(0, 30)", x.fall(0, 30), 5);
        due.is("7: fall(0, 31)", x.fall(0, 31), OUTSIDE);
        due.is("7: fall(0, -1)", x.fall(0, -1), OUTSIDE);
        due.is("7: fall(0, 0)", x.fall(0, 0), 30);
        due.is("7: fall(0, 1)", x.fall(0, 1), 0);
        due.is("7: fall(10, 1)", x.fall(10, 1), 5);
        due.is("7: fall(11, 1)", x.fall(11, 1), OUTSIDE);
        due.is("7: fall(-1, 1)", x.fall(-1, 1), OUTSIDE);
        x.put(0, 0);
        for (int klass = 0; klass <= 10; klass++) {
            x.fall(klass, klass);
        }
        int[] strengths = {90, 81, 73, 66, 60, 54, 49, 45, 41, 37, 34, 31};
        for (int strength : strengths) {
            x.days(1);
            due.is("7: each class falls by its own", x.corner(0, 1), strength);
        }
    }

    private static void put() {
        PalaceOfRooms x = new PalaceOfRooms();
        due.is("8: put(5, 47)", x.put(5, 47), NONE);
        due.is("8: put(5, 47) again", x.put(5, 47), NOT);
        due.is("8: put(5, 0)", x.put(5, 0), NOT);
        due.is("8: UNKNOWN goes ahead of NOT", x.put(5, 48), UNKNOWN);
        due.is("8: put(24, 0)", x.put(24, 0), UNKNOWN);
        due.is("8: put(-1, 0)", x.put(-1, 0), UNKNOWN);
        due.is("8: put(0, -1)", x.put(0, -1), UNKNOWN);
        due.is("8: nothing changed", x.count(2), 1);
        x.days(2);
        due.is("8: put(6, 47)", x.put(6, 47), 5);
        due.is("8: STRENGTH 100", x.corner(47, 1), 100);
        due.is("8: GHOST", x.corner(47, 2), 5);
        due.is("8: its STRENGTH", x.corner(47, 3), 90);
        due.is("8: what is covered stands nowhere", x.where(5), NONE);
        due.is("8: put(7, 47)", x.put(7, 47), 6);
        due.is("8: the older GHOST is gone", x.corner(47, 2), 6);
        due.is("8: GHOSTS", x.count(3), 1);
        due.is("8: what is covered is put anew", x.put(5, 46), NONE);
        PalaceOfRooms y = new PalaceOfRooms();
        y.put(0, 0);
        y.put(1, 0);
        for (int klass = 0; klass <= 10; klass++) {
            y.fall(klass, 30);
        }
        y.days(1);
        y.set(1, 0);
        y.days(3);
        y.put(2, 0);
        due.is("8: of STRENGTH 0 there is no GHOST", y.corner(0, 2), NONE);
        due.is("8: of STRENGTH 0 there is no GHOST", y.corner(0, 3), NONE);
        PalaceOfRooms z = new PalaceOfRooms();
        for (int klass = 0; klass <= 9; klass++) {
            z.fall(klass, 0);
        }
        z.put(0, 0);
        z.days(1);
        z.put(1, 0);
        z.set(0, 1);
        z.marks(1, 1);
        z.marks(2, 1);
        z.put(2, 1);
        z.days(60);
        z.days(60);
        due.is("8: fell by one like it", z.corner(0, 1), 0);
        due.is("8: its GHOST stayed", z.corner(0, 3), 95);
        due.is("8: put(3, 0)", z.put(3, 0), 1);
        due.is("8: a GHOST that was there is gone", z.corner(0, 2), NONE);
    }

    private static void putOverTheWeakest() {
        PalaceOfRooms x = new PalaceOfRooms();
        x.fall(10, 30);
        x.fall(7, 30);
        x.fall(4, 30);
        x.fall(1, 9);
        x.put(0, 0);
        x.days(4);
        due.is("8: STRENGTH 1", x.corner(0, 1), 1);
        x.put(1, 0);
        due.is("8: of STRENGTH 1 there is a GHOST", x.corner(0, 2), 0);
        due.is("8: of STRENGTH 1 there is a GHOST", x.corner(0, 3), 1);
    }

    private static void clear() {
        PalaceOfRooms x = new PalaceOfRooms();
        x.put(3, 9);
        x.days(1);
        x.put(4, 9);
        due.is("9: clear(8)", x.clear(8), NOT);
        due.is("9: clear(48)", x.clear(48), UNKNOWN);
        due.is("9: clear(-1)", x.clear(-1), UNKNOWN);
        due.is("9: clear(9)", x.clear(9), 4);
        due.is("9: the GHOST too", x.corner(9, 2), NONE);
        due.is("9: the GHOST too", x.corner(9, 3), NONE);
        due.is("9: nothing ON TOP", x.corner(9, 0), NONE);
        due.is("9: nothing ON TOP", x.corner(9, 1), NONE);
        due.is("9: PUT there last", x.corner(9, 4), 1);
        due.is("9: where(4)", x.where(4), NONE);
        due.is("9: clear(9) again", x.clear(9), NOT);
        due.is("9: put(4, 9)", x.put(4, 9), NONE);
        due.is("9: no GHOST behind it", x.corner(9, 2), NONE);
    }

    private static void corner() {
        PalaceOfRooms x = new PalaceOfRooms();
        x.put(3, 9);
        x.days(7);
        x.put(4, 9);
        x.days(1);
        int[] of = {4, 95, 3, 60, 7};
        for (int what = 0; what < of.length; what++) {
            due.is("10: corner(9, " + what + ")", x.corner(9, what), of[what]);
        }
        due.is("10: corner(9, 5)", x.corner(9, 5), OUTSIDE);
        due.is("10: corner(9, -1)", x.corner(9, -1), OUTSIDE);
        due.is("10: corner(48, 5)", x.corner(48, 5), UNKNOWN);
        due.is("10: corner(-1, 0)", x.corner(-1, 0), UNKNOWN);
        x.days(60);
        due.is("10: ON TOP of 0 stays", x.corner(9, 0), 4);
        due.is("10: ON TOP of 0 stays", x.corner(9, 1), 0);
        due.is("10: a GHOST of 0 is gone", x.corner(9, 2), NONE);
        due.is("10: a GHOST of 0 is gone", x.corner(9, 3), NONE);
    }

    private static void where() {
        PalaceOfRooms x = new PalaceOfRooms();
        x.put(23, 47);
        due.is("11: where(23)", x.where(23), 47);
        due.is("11: where(0)", x.where(0), NONE);
        due.is("11: where(24)", x.where(24), UNKNOWN);
        due.is("11: where(-1)", x.where(-1), UNKNOWN);
        x.put(22, 47);
        due.is("11: a GHOST is nowhere", x.where(23), NONE);
        due.is("11: where(22)", x.where(22), 47);
    }

    private static void days() {
        PalaceOfRooms x = new PalaceOfRooms();
        x.put(0, 0);
        due.is("12: days(0)", x.days(0), OUTSIDE);
        due.is("12: days(-1)", x.days(-1), OUTSIDE);
        due.is("12: days(61)", x.days(61), OUTSIDE);
        due.is("12: days(most)", x.days(Integer.MAX_VALUE), OUTSIDE);
        due.is("12: nothing changed", x.corner(0, 1), 100);
        for (int i = 1; i <= 6; i++) {
            due.is("12: days(60)", x.days(60), 60 * i);
        }
        x.put(1, 1);
        due.is("12: beyond 400", x.days(41), OUTSIDE);
        due.is("12: nothing changed", x.corner(1, 1), 100);
        due.is("12: up to 400", x.days(40), 400);
        due.is("12: beyond 400", x.days(1), OUTSIDE);
        due.is("12: THE DAY", x.count(0), 400);
    }

    private static void fasterBesideLikeOnes() {
        PalaceOfRooms x = new PalaceOfRooms();
        x.marks(0, 0b1111);
        x.marks(1, 0b11111);
        x.marks(2, 0b1110);
        x.marks(3, 0b11110);
        x.put(0, 0);
        x.put(1, 5);
        x.put(2, 2);
        x.put(3, 6);
        x.days(1);
        due.is("12: one like it in the ROOM", x.corner(0, 1), 94);
        due.is("12: one like it in the ROOM", x.corner(5, 1), 94);
        due.is("12: like in 3 only", x.corner(2, 1), 95);
        due.is("12: like, but in another ROOM", x.corner(6, 1), 95);
        x.set(0, 3);
        x.days(1);
        due.is("12: two like it", x.corner(0, 1), 94 - 5 - 2);
        due.is("12: two like it", x.corner(5, 1), 94 - 5 - 2);
        due.is("12: two like it", x.corner(2, 1), 95 - 5 - 2);
        x.put(4, 5);
        x.days(1);
        due.is("12: a GHOST crowds no one", x.corner(0, 1), 87 - 5 - 1);
        due.is("12: no one crowds a GHOST", x.corner(5, 3), 87 - 5);
    }

    private static void ghostsFall() {
        PalaceOfRooms x = new PalaceOfRooms();
        x.fall(10, 0);
        x.fall(7, 20);
        x.fall(5, 30);
        x.fall(2, 29);
        x.put(0, 0);
        x.fall(10, 25);
        x.days(1);
        x.put(1, 0);
        x.fall(10, 0);
        due.is("12: GHOST", x.corner(0, 3), 75);
        x.days(1);
        due.is("12: by its own class", x.corner(0, 3), 55);
        due.is("12: ON TOP by its own", x.corner(0, 1), 100);
        x.days(1);
        due.is("12: by its own class", x.corner(0, 3), 25);
        due.is("12: GHOSTS", x.count(3), 1);
        x.days(1);
        due.is("12: below 0 it is gone", x.corner(0, 2), NONE);
        due.is("12: GHOSTS", x.count(3), 0);
    }

    private static void walk() {
        PalaceOfRooms x = new PalaceOfRooms();
        due.is("13: an empty ROOM", x.walk(7), 0);
        x.put(0, 42);
        x.put(1, 47);
        x.put(2, 41);
        x.days(3);
        x.put(3, 47);
        x.days(4);
        due.is("13: walk(7)", x.walk(7), 17 + 10);
        due.is("13: rose", x.corner(42, 1), 65 + 17);
        due.is("13: rose", x.corner(47, 1), 80 + 10);
        due.is("13: a GHOST does not rise", x.corner(47, 3), 65);
        due.is("13: another ROOM does not rise", x.corner(41, 1), 65);
        x.set(1, 99);
        due.is("13: cut", x.walk(7), 17 + 9);
        x.set(1, 0);
        due.is("13: GAIN 0", x.walk(6), 0);
        x.set(1, 100);
        due.is("13: GAIN 100", x.walk(6), 35);
        due.is("13: full", x.corner(41, 1), 100);
        due.is("13: walk(8)", x.walk(8), UNKNOWN);
        due.is("13: walk(-1)", x.walk(-1), UNKNOWN);
        due.is("13: THE DAY stays", x.count(0), 7);
    }
}
