/** Promises 28 to 33: pupils, figures. */
public final class PupilsTest {

    private static final int NONE = PalaceOfRooms.NONE, UNKNOWN = PalaceOfRooms.UNKNOWN,
            OUTSIDE = PalaceOfRooms.OUTSIDE, NOT = PalaceOfRooms.NOT, FULL = PalaceOfRooms.FULL;
    private static final Due due = new Due();

    public static void main(String[] args) {
        answer();
        pupil();
        pupilWithOneTable();
        pupilWithoutTable();
        figures();
        code();
        codeRefusals();
        enough();
        enoughByRules();
        count();
        due.end();
    }

    private static void answer() {
        PalaceOfRooms x = new PalaceOfRooms();
        due.is("28: answer(4, ..)", x.answer(4, 0, true), UNKNOWN);
        due.is("28: answer(-1, ..)", x.answer(-1, 1, true), UNKNOWN);
        due.is("28: d 0", x.answer(0, 0, true), OUTSIDE);
        due.is("28: d 61", x.answer(0, 61, false), OUTSIDE);
        due.is("28: nothing changed", x.pupil(0, 0), 81);
        for (int i = 1; i <= 12; i++) {
            due.is("28: one more", x.answer(3, 60, false), i);
        }
        due.is("28: the thirteenth", x.answer(3, 60, false), FULL);
        due.is("28: OUTSIDE goes ahead of FULL", x.answer(3, 61, false), OUTSIDE);
        due.is("28: nothing changed", x.pupil(3, 2), 12);
        due.is("28: of each PUPIL", x.answer(2, 1, true), 1);
    }

    private static void pupil() {
        PalaceOfRooms x = new PalaceOfRooms();
        due.is("29: all tables", x.pupil(3, 0), 81);
        due.is("29: the least", x.pupil(3, 1), 110);
        due.is("29: by none", x.pupil(3, 2), 0);
        due.is("29: parts most", x.pupil(3, 3), 9);
        x.answer(3, 10, true);
        // 100 - 10 a >= LIMIT: 9 + 8 + .. + 1 tables.
        due.is("29: 10 DAYS right", x.pupil(3, 0), 45);
        due.is("29: the least", x.pupil(3, 1), 110);
        due.is("29: by one", x.pupil(3, 2), 1);
        x.answer(3, 11, false);
        // Right after 10 DAYS, not after 11: only just so, LIMIT = 100 - 10 a.
        due.is("29: but not 11", x.pupil(3, 0), 9);
        due.is("29: the least a", x.pupil(3, 1), 190);
        due.is("29: by two", x.pupil(3, 2), 2);
        due.is("29: none is parted: the least d", x.pupil(3, 3), 1);
        due.is("29: another PUPIL", x.pupil(2, 0), 81);
        due.is("29: what 4", x.pupil(0, 4), OUTSIDE);
        due.is("29: what -1", x.pupil(0, -1), OUTSIDE);
        due.is("29: pupil(4, 4)", x.pupil(4, 4), UNKNOWN);
        due.is("29: pupil(-1, 0)", x.pupil(-1, 0), UNKNOWN);
        PalaceOfRooms y = new PalaceOfRooms();
        y.answer(0, 60, true);
        // a = 1 with LIMIT 10 .. 40.
        due.is("29: 60 DAYS right", y.pupil(0, 0), 4);
        due.is("29: the least", y.pupil(0, 1), 110);
        due.is("29: none is parted", y.pupil(0, 3), 1);
        PalaceOfRooms z = new PalaceOfRooms();
        z.answer(0, 1, false);
        // a > 100 - LIMIT never holds for a of 1 .. 9 and LIMIT of 90 at most.
        due.is("29: no table forgets in a DAY", z.pupil(0, 0), 0);
        due.is("29: no d", z.pupil(0, 3), NONE);
    }

    private static void pupilWithOneTable() {
        PalaceOfRooms x = new PalaceOfRooms();
        // a = 1: LIMIT 40 is right after 60 DAYS, LIMIT 50 after 50 and not after 51.
        x.answer(0, 50, true);
        x.answer(0, 51, false);
        due.is("29: one table", x.pupil(0, 0), 1);
        due.is("29: it is the likeliest", x.pupil(0, 1), 150);
        due.is("29: one is not parted", x.pupil(0, 3), 1);
        // LIMIT 10 to 40: what parts them is beyond 60 DAYS.
        x.answer(1, 59, true);
        due.is("29: four tables", x.pupil(1, 0), 4);
        due.is("29: right, and not, are least unlike", x.pupil(1, 3), 1);
        // a = 1 with 10 to 50, a = 2 with 10.
        x.answer(2, 45, true);
        due.is("29: six tables", x.pupil(2, 0), 6);
        due.is("29: 4 right and 2 not from DAY 51", x.pupil(2, 3), 51);
    }

    private static void pupilWithoutTable() {
        PalaceOfRooms x = new PalaceOfRooms();
        x.answer(1, 5, false);
        // 100 - 5 a < LIMIT: 60 < 70 .. 90 for a = 8, and so on.
        due.is("29: the least a that loses so much", x.pupil(1, 1), 390);
        x.answer(1, 10, true);
        due.is("29: none may be", x.pupil(1, 0), 0);
        due.is("29: by one, the least", x.pupil(1, 1), 110);
        due.is("29: by one", x.pupil(1, 2), 1);
        due.is("29: none parts", x.pupil(1, 3), NONE);
    }

    private static void figures() {
        PalaceOfRooms x = new PalaceOfRooms();
        due.is("30: figures(9, 0, 9)", x.figures(9, 0, 9), 0);
        due.is("30: figures(0, 9, 10)", x.figures(0, 9, 10), OUTSIDE);
        due.is("30: figures(0, 9, -1)", x.figures(0, 9, -1), OUTSIDE);
        due.is("30: figures(0, 9, 0)", x.figures(0, 9, 0), 9);
        due.is("30: figures(9, 0, 1)", x.figures(9, 0, 1), 0);
        due.is("30: figures(9, 9, 10)", x.figures(9, 9, 10), UNKNOWN);
        due.is("30: figures(10, 0, 1)", x.figures(10, 0, 1), UNKNOWN);
        due.is("30: figures(0, -1, 1)", x.figures(0, -1, 1), UNKNOWN);
    }

    private static void codeIs(PalaceOfRooms x, long row, int n, int harm, int... things) {
        due.is("31: HARM", x.code(row, n, -1), harm);
        for (int i = 0; i < n; i++) {
            due.is("31: THING of FIGURE " + i, x.code(row, n, i), things[i]);
        }
        due.is("31: not so many", x.code(row, n, n), NONE);
        due.is("31: not so many", x.code(row, n, Integer.MAX_VALUE), NONE);
    }

    private static void code() {
        PalaceOfRooms x = new PalaceOfRooms();
        codeIs(x, Due.row(23, 0), 2, 0, 23, 0);
        codeIs(x, Due.row(9, 8, 7, 6, 5, 4), 6, 0, 9, 8, 7, 6, 5, 4);
        x.marks(0, 0b1111);
        x.marks(1, 0b1110);
        x.marks(2, 0b1000);
        x.figures(0, 1, 9);
        codeIs(x, Due.row(0, 1, 2), 3, 9, 0, 2, 1);
        codeIs(x, Due.row(2, 1, 0), 3, 9, 2, 1, 0);
        x.figures(1, 2, 1);
        codeIs(x, Due.row(0, 1, 2), 3, 10, 0, 2, 1);
        codeIs(x, Due.row(1, 0, 2), 3, 10, 1, 2, 0);
        x.figures(0, 2, 2);
        // 0, 2, 1: 9 + 1 + 6; 2, 0, 1: 9 + 3 + 2.
        codeIs(x, Due.row(0, 1, 2), 3, 14, 2, 0, 1);
        codeIs(x, Due.row(1, 0), 2, 27, 1, 0);
        x.figures(4, 5, 9);
        x.figures(8, 9, 9);
        for (int thing = 10; thing < 16; thing++) {
            x.marks(thing, 255);
        }
        codeIs(x, Due.row(15, 14, 13, 12, 11, 10), 6, 8 * (9 + 1 + 2 + 9), 15, 14, 13, 12, 11, 10);
    }

    private static void codeRefusals() {
        PalaceOfRooms x = new PalaceOfRooms();
        due.is("31: n 1", x.code(Due.row(3), 1, 0), OUTSIDE);
        due.is("31: n 7", x.code(Due.row(0, 1, 2, 3, 4, 5, 6), 7, 0), OUTSIDE);
        due.is("31: n least", x.code(0, Integer.MIN_VALUE, 0), OUTSIDE);
        due.is("31: two alike", x.code(Due.row(0, 1, 0), 3, 0), OUTSIDE);
        due.is("31: i -2", x.code(Due.row(0, 1), 2, -2), OUTSIDE);
        due.is("31: THING 24, the first", x.code(Due.row(24, 0), 2, 0), UNKNOWN);
        due.is("31: THING 24", x.code(Due.row(0, 24), 2, 0), UNKNOWN);
        due.is("31: UNKNOWN goes ahead of two alike", x.code(Due.row(0, 0, 24), 3, -2), UNKNOWN);
    }

    private static void enough() {
        PalaceOfRooms x = new PalaceOfRooms();
        due.is("32: none needed", x.enough(0), 0);
        due.is("32: ROOM 0", x.enough(1), 1);
        due.is("32: ROOM 0, whole", x.enough(6), 1);
        due.is("32: no other ROOM", x.enough(7), NONE);
        x.door(1, 2);
        due.is("32: ROOMS without a way", x.enough(7), NONE);
        for (int room = 0; room < 7; room++) {
            x.door(room, room + 1);
        }
        due.is("32: all", x.enough(48), 8);
        due.is("32: all but one ROOM", x.enough(42), 7);
        due.is("32: 49", x.enough(49), OUTSIDE);
        due.is("32: -1", x.enough(-1), OUTSIDE);
    }

    private static void enoughByRules() {
        PalaceOfRooms x = new PalaceOfRooms();
        x.door(0, 7);
        x.door(7, 1);
        x.door(0, 6);
        Due.write(x, "room 0 3;room 0 2;room 6 0;room 7 8;room 1 1");
        x.rules();
        // By AWAY: ROOM 0 (2), 6 (0), 7 (6), 1 (1).
        int[] last = {0, 2, 2, 8, 9};
        due.is("32: 0", x.enough(0), 0);
        due.is("32: 1", x.enough(1), 1);
        for (int rooms = 1; rooms <= 4; rooms++) {
            if (last[rooms] > last[rooms - 1]) {
                due.is("32: up to", x.enough(last[rooms]), rooms);
                due.is("32: from", x.enough(last[rooms - 1] + 1), rooms);
            }
        }
        due.is("32: too many", x.enough(10), NONE);
        x.put(0, 0);
        due.is("32: what stands does not count", x.enough(2), 1);
        Due.write(x, "room 0 0");
        x.rules();
        due.is("32: none in ROOM 0", x.enough(1), 2);
        due.is("32: none needed", x.enough(0), 0);
    }

    private static void count() {
        PalaceOfRooms x = new PalaceOfRooms();
        x.door(0, 1);
        x.door(0, 2);
        x.put(0, 0);
        x.put(1, 0);
        x.put(2, 30);
        x.put(3, 30);
        x.put(4, 31);
        Due.write(x, "again 1;again 2");
        x.rules();
        Due.write(x, "abc");
        x.days(1);
        x.clear(30);
        int[] of = {1, 2, 2, 1, 190, 3, 2};
        for (int what = 0; what < of.length; what++) {
            due.is("33: count(" + what + ")", x.count(what), of[what]);
        }
        due.is("33: count(7)", x.count(7), OUTSIDE);
        due.is("33: count(-1)", x.count(-1), OUTSIDE);
        due.is("33: clear(30)", x.clear(30), NOT);
    }
}
