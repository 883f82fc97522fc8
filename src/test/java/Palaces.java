/** Palaces to begin with, each made by few enough calls that all of it can still be seen before the 512th. */
enum Palaces {

    /** Nothing stands anywhere. */
    EMPTY,
    /** As much of everything as there may be, and a FAULT nowhere. */
    FULL_HOUSE,
    /** THE DAY is 400, and there is room for more of everything. */
    LAST_DAY;

    static final int DOORS = 14;
    static final int ANSWERS = 12;
    /** The only PUPIL of the full house that takes no ANSWER more. */
    static final int FULL_PUPIL = 3;
    static final String FULL_TEXT = "room 1 4;again 7;apart 0;walk 2 every 99" + " ".repeat(120);

    PalaceOfRooms make() {
        PalaceOfRooms x = new PalaceOfRooms();
        if (this == FULL_HOUSE) {
            furnish(x);
        } else if (this == LAST_DAY) {
            goToLastDay(x);
        }
        return x;
    }

    private static void furnish(PalaceOfRooms x) {
        joinAll(x);
        for (int thing = 0; thing < 24; thing++) {
            x.marks(thing, 255 >> thing % 9);
        }
        x.set(0, 3);
        x.set(1, 40);
        x.fall(10, 11);
        for (int thing = 0; thing < 6; thing++) {
            x.put(thing, 7 * thing);
        }
        x.days(3);
        for (int thing = 6; thing < 12; thing++) {
            x.put(thing, 7 * (thing - 6) + thing % 2);
        }
        Due.write(x, "room 0 2;again 5;apart 1;walk 0 every 3;walk 1 every 9");
        x.rules();
        x.walk(1);
        x.days(1);
        Due.write(x, FULL_TEXT);
        for (int i = 0; i < ANSWERS; i++) {
            x.answer(FULL_PUPIL, 3 * i + 1, i < 5);
        }
        x.answer(0, 20, true);
        x.figures(0, 1, 9);
        x.figures(1, 2, 4);
        x.figures(8, 9, 7);
    }

    /** A ring of all ROOMS, and DOORS of ROOM 0 and of ROOM 1 until there are 14. */
    private static void joinAll(PalaceOfRooms x) {
        for (int room = 0; room < 8; room++) {
            x.door(room, (room + 1) % 8);
        }
        for (int room = 2; room < 7; room++) {
            x.door(0, room);
        }
        x.door(1, 3);
    }

    private static void goToLastDay(PalaceOfRooms x) {
        x.door(0, 1);
        x.put(1, 7);
        x.put(2, 6);
        for (int i = 0; i < 6; i++) {
            x.days(60);
        }
        x.days(30);
        x.put(0, 0);
        x.put(3, 6);
        x.days(10);
        x.walk(0);
        Due.write(x, "walk 0 every 1;walk 1 every 9;again 11");
        x.rules();
        Due.write(x, "again 7");
    }

    /** THING 0 stands in CORNER 0 with this STRENGTH, and every FALL is 0. */
    static PalaceOfRooms withStrength(int strength) {
        PalaceOfRooms x = withoutFall();
        x.put(0, 0);
        fallTo(x, strength);
        return x;
    }

    static PalaceOfRooms withoutFall() {
        PalaceOfRooms x = new PalaceOfRooms();
        fallEachBy(x, 0);
        return x;
    }

    static void fallEachBy(PalaceOfRooms x, int v) {
        for (int klass = 0; klass <= 10; klass++) {
            x.fall(klass, v);
        }
    }

    /** Only what stands as strong as the THING in CORNER 0 falls with it; every FALL is 0 ahead of this and behind it. */
    static void fallTo(PalaceOfRooms x, int strength) {
        int left = x.corner(0, 1);
        while (left > strength) {
            int by = Math.min(30, left - strength);
            x.fall(left / 10, by);
            x.days(1);
            x.fall(left / 10, 0);
            left -= by;
        }
    }

    static PalaceOfRooms ruled(String text) {
        PalaceOfRooms x = new PalaceOfRooms();
        rule(x, text);
        return x;
    }

    static void rule(PalaceOfRooms x, String text) {
        Due.write(x, text);
        x.rules();
    }
}
