/** "Refused, and nothing changes: UNKNOWN, OUTSIDE, NOT, FULL: the first of these that fits", promise by promise. */
public final class RefusalsTest {

    private static final int NONE = PalaceOfRooms.NONE, UNKNOWN = PalaceOfRooms.UNKNOWN,
            OUTSIDE = PalaceOfRooms.OUTSIDE, NOT = PalaceOfRooms.NOT, FULL = PalaceOfRooms.FULL;
    private static final Due due = new Due();

    public static void main(String[] args) {
        door();
        unknownAheadOfOutsideInTheHouse();
        put();
        clear();
        days();
        write();
        rules();
        laid();
        planAndJudge();
        right();
        causes();
        unknownAheadOfNone();
        answer();
        figures();
        code();
        whatOnlyTellsChangesNothing();
        due.end();
    }

    private static void everywhere(String name, Due.Call call, int want) {
        for (Palaces kind : Palaces.values()) {
            due.leaves(name, kind, call, want);
        }
    }

    private static void fullHouse(String name, Due.Call call, int want) {
        due.leaves(name, Palaces.FULL_HOUSE, call, want);
    }

    private static void door() {
        for (int room = 0; room < 8; room++) {
            int one = room;
            everywhere("2: a ROOM and itself", x -> x.door(one, one), UNKNOWN);
        }
        everywhere("2: no ROOM and itself", x -> x.door(8, 8), UNKNOWN);
        fullHouse("2: there is one: NOT, ahead of FULL", x -> x.door(0, 1), NOT);
        fullHouse("2: there is one, from its other side", x -> x.door(1, 0), NOT);
        due.leaves("2: there is one, not FULL", Palaces.LAST_DAY, x -> x.door(0, 1), NOT);
        fullHouse("2: a fifteenth", x -> x.door(7, 1), FULL);
        fullHouse("2: UNKNOWN ahead of FULL", x -> x.door(7, 8), UNKNOWN);
    }

    private static void unknownAheadOfOutsideInTheHouse() {
        everywhere("4: no such THING, no such MARKS", x -> x.marks(24, 256), UNKNOWN);
        everywhere("4: no such THING, no such MARKS", x -> x.marks(-1, -1), UNKNOWN);
        everywhere("5: neither THING", x -> x.like(24, -1), UNKNOWN);
        everywhere("6: what 2, as TELL or GAIN", x -> x.set(2, 5), OUTSIDE);
        everywhere("6: GAIN's number for TELL", x -> x.set(0, 50), OUTSIDE);
        everywhere("7: neither number", x -> x.fall(11, 31), OUTSIDE);
        everywhere("10: no such CORNER, no such what", x -> x.corner(48, 5), UNKNOWN);
        everywhere("10: no such CORNER, no such what", x -> x.corner(-1, -1), UNKNOWN);
    }

    private static void put() {
        fullHouse("8: ON TOP somewhere", x -> x.put(7, 47), NOT);
        fullHouse("8: ON TOP there", x -> x.put(7, 8), NOT);
        fullHouse("8: ON TOP, where another one stands", x -> x.put(7, 0), NOT);
        fullHouse("8: UNKNOWN ahead of NOT", x -> x.put(7, 48), UNKNOWN);
        fullHouse("8: UNKNOWN ahead of NOT", x -> x.put(7, -1), UNKNOWN);
        due.leaves("8: ON TOP with STRENGTH 0", Palaces.LAST_DAY, x -> x.put(1, 20), NOT);
        due.is("8: a GHOST is not ON TOP", Palaces.FULL_HOUSE.make().put(0, 47), NONE);
    }

    private static void clear() {
        due.leaves("9: nothing stood there ever", Palaces.EMPTY, x -> x.clear(0), NOT);
        fullHouse("9: nothing stands there", x -> x.clear(47), NOT);
        due.leaves("9: nothing stands beside it", Palaces.LAST_DAY, x -> x.clear(8), NOT);
        PalaceOfRooms x = Palaces.LAST_DAY.make();
        due.is("9: STRENGTH 0 stands", x.clear(7), 1);
        due.is("9: it was taken off", x.clear(7), NOT);
        due.is("9: the DAY stays", x.corner(7, 4), 0);
    }

    private static void days() {
        due.leaves("12: beyond 400", Palaces.LAST_DAY, x -> x.days(1), OUTSIDE);
        PalaceOfRooms x = new PalaceOfRooms();
        x.put(0, 0);
        x.put(1, 0);
        for (int i = 0; i < 5; i++) {
            x.days(60);
        }
        x.days(41);
        x.put(2, 1);
        x.put(3, 1);
        due.is("12: 341 and 60", x.days(60), OUTSIDE);
        due.is("12: nothing fell", x.corner(1, 1), 100);
        due.is("12: no GHOST fell", x.corner(1, 3), 100);
        due.is("12: THE DAY stays", x.count(0), 341);
        due.is("12: 341 and 59", x.days(59), 400);
    }

    private static void write() {
        for (int n = 1; n <= 8; n++) {
            int bytes = n;
            fullHouse("14: " + n + " bytes behind 160", x -> x.write(0, bytes), FULL);
        }
        fullHouse("14: OUTSIDE ahead of FULL", x -> x.write(0, 0), OUTSIDE);
        fullHouse("14: OUTSIDE ahead of FULL", x -> x.write(0, 9), OUTSIDE);
        for (int room = 1; room < 8; room++) {
            PalaceOfRooms x = new PalaceOfRooms();
            Due.write(x, "again 1" + " ".repeat(160 - 7 - room));
            due.is("14: one byte more than there is room for", x.write(0, room + 1), FULL);
            due.is("14: no byte came", x.count(5), 160 - room);
            due.is("14: no byte came", x.fault(), NONE);
            due.is("14: as many as there is room for", x.write(-1L, room), 160);
            due.is("14: they came", x.fault(), 160 - room);
        }
    }

    private static void rules() {
        due.leaves("17: nothing is written", Palaces.EMPTY, x -> x.rules(), NOT);
        for (String text : new String[] {"room 8 1", "again 7;", "again 7;x", " "}) {
            PalaceOfRooms x = Palaces.LAST_DAY.make();
            x.erase();
            Due.write(x, text);
            int faultAt = x.fault();
            int dueRooms = x.due();
            due.is("17: a FAULT in '" + text + "'", x.rules(), NOT);
            due.is("17: THE TEXT stays", x.count(5), text.length());
            due.is("17: its FAULT stays", x.fault(), faultAt);
            due.is("17: THE RULES stay", x.count(6), 3);
            due.is("17: they tell the same", x.due(), dueRooms);
            due.is("17: they tell the same", x.bars(9, 0), 2);
        }
    }

    private static void laid() {
        everywhere("20: two alike", x -> x.laid(Due.row(5, 5), 2, 0), OUTSIDE);
        everywhere("20: the first and the last alike", x -> x.laid(Due.row(5, 1, 2, 3, 4, 6, 7, 5), 8, 0), OUTSIDE);
        everywhere("20: two alike, i -1", x -> x.laid(Due.row(0, 0), 2, -1), OUTSIDE);
        everywhere("20: two alike, ahead of NONE", x -> x.laid(Due.row(0, 0), 2, 2), OUTSIDE);
        everywhere("20: n, ahead of NONE", x -> x.laid(0, 0, 0), OUTSIDE);
        everywhere("20: i below -1", x -> x.laid(Due.row(5, 6), 2, -2), OUTSIDE);
        everywhere("20: UNKNOWN ahead of i", x -> x.laid(Due.row(5, 24), 2, -2), UNKNOWN);
        everywhere("20: UNKNOWN ahead of two alike", x -> x.laid(Due.row(24, 24), 2, 0), UNKNOWN);
        everywhere("20: UNKNOWN ahead of n 9", x -> x.laid(Due.row(0, 1, 2, 3, 4, 5, 6, 7, 24), 9, 0), UNKNOWN);
        everywhere("20: UNKNOWN ahead of n 12", x -> x.laid(Due.row(0, 1, 2, 3, 4, 5, 6, 7, 8, 9, 10, 24), 12, 0), UNKNOWN);
        everywhere("20: no THING of n 0 is UNKNOWN", x -> x.laid(Due.row(24), 0, 0), OUTSIDE);
        everywhere("20: UNKNOWN ahead of NONE", x -> x.laid(Due.row(5, 24), 2, 2), UNKNOWN);
    }

    private static void planAndJudge() {
        everywhere("22: n and what", x -> x.plan(0, 0, 0), OUTSIDE);
        everywhere("22: what beyond n", x -> x.plan(3, 0, 3), OUTSIDE);
        everywhere("23: OUTSIDE ahead of NONE", x -> x.judge(Due.rooms(7, 9), 2, 0), OUTSIDE);
        everywhere("23: OUTSIDE ahead of NONE", x -> x.judge(Due.rooms(9, 7), 2, 0), OUTSIDE);
        everywhere("23: n ahead of NONE", x -> x.judge(Due.rooms(7), 5, 0), OUTSIDE);
        everywhere("23: it is none", x -> x.judge(Due.rooms(7), 1, 0), NONE);
    }

    private static void right() {
        everywhere("24: UNKNOWN ahead of OUTSIDE", x -> x.right(48, 2), UNKNOWN);
        everywhere("24: UNKNOWN ahead of OUTSIDE", x -> x.right(-1, -1), UNKNOWN);
        everywhere("24: OUTSIDE ahead of NOT", x -> x.right(47, 2), OUTSIDE);
        everywhere("24: nothing stands there, above", x -> x.right(47, 0), NOT);
        everywhere("24: nothing stands there, below", x -> x.right(47, 1), NOT);
        due.leaves("24: all STRENGTHS are 0, above", Palaces.LAST_DAY, x -> x.right(7, 0), NOT);
        due.leaves("24: all STRENGTHS are 0, below", Palaces.LAST_DAY, x -> x.right(7, 1), NOT);
        due.leaves("24: OUTSIDE ahead of all 0", Palaces.LAST_DAY, x -> x.right(7, 2), OUTSIDE);
    }

    private static void causes() {
        everywhere("25: UNKNOWN ahead of NOT", x -> x.causes(47, 24), UNKNOWN);
        everywhere("25: UNKNOWN ahead of NOT", x -> x.causes(48, 0), UNKNOWN);
        everywhere("25: neither", x -> x.causes(-1, -1), UNKNOWN);
        everywhere("25: nothing stands there", x -> x.causes(47, 0), NOT);
        fullHouse("25: the THING that was said", x -> x.causes(8, 7), NOT);
        fullHouse("25: the THING that was said, over a GHOST", x -> x.causes(0, 6), NOT);
    }

    private static void unknownAheadOfNone() {
        everywhere("3: UNKNOWN ahead of NONE", x -> x.away(8, 9), UNKNOWN);
        everywhere("26: it is ON TOP nowhere, in no ROOM", x -> x.asked(23, 8), UNKNOWN);
        everywhere("26: neither", x -> x.asked(24, 8), UNKNOWN);
        everywhere("27: UNKNOWN ahead of OUTSIDE", x -> x.beside(24, 2), UNKNOWN);
        everywhere("27: OUTSIDE ahead of NONE", x -> x.beside(23, 2), OUTSIDE);
        everywhere("29: UNKNOWN ahead of OUTSIDE", x -> x.pupil(4, 4), UNKNOWN);
        everywhere("29: UNKNOWN ahead of OUTSIDE", x -> x.pupil(-1, -1), UNKNOWN);
    }

    private static void answer() {
        int full = Palaces.FULL_PUPIL;
        fullHouse("28: a thirteenth, right", x -> x.answer(full, 1, true), FULL);
        fullHouse("28: a thirteenth, wrong", x -> x.answer(full, 60, false), FULL);
        fullHouse("28: OUTSIDE ahead of FULL", x -> x.answer(full, 0, true), OUTSIDE);
        fullHouse("28: OUTSIDE ahead of FULL", x -> x.answer(full, 61, false), OUTSIDE);
        everywhere("28: UNKNOWN ahead of OUTSIDE", x -> x.answer(4, 61, true), UNKNOWN);
        everywhere("28: UNKNOWN ahead of OUTSIDE", x -> x.answer(-1, 0, false), UNKNOWN);
    }

    private static void figures() {
        for (int figure = 0; figure < 10; figure++) {
            int one = figure;
            everywhere("30: a FIGURE and itself", x -> x.figures(one, one, 1), UNKNOWN);
        }
        everywhere("30: UNKNOWN ahead of OUTSIDE", x -> x.figures(0, 10, 10), UNKNOWN);
        everywhere("30: UNKNOWN ahead of OUTSIDE", x -> x.figures(-1, 0, -1), UNKNOWN);
        everywhere("30: itself, ahead of OUTSIDE", x -> x.figures(9, 9, 10), UNKNOWN);
    }

    private static void code() {
        everywhere("31: two alike", x -> x.code(Due.row(5, 5), 2, 0), OUTSIDE);
        everywhere("31: the first and the last alike", x -> x.code(Due.row(5, 1, 2, 3, 4, 5), 6, 0), OUTSIDE);
        everywhere("31: two alike, i -1", x -> x.code(Due.row(0, 0), 2, -1), OUTSIDE);
        everywhere("31: two alike, ahead of NONE", x -> x.code(Due.row(0, 0), 2, 2), OUTSIDE);
        everywhere("31: n 1, ahead of NONE", x -> x.code(Due.row(5), 1, 1), OUTSIDE);
        everywhere("31: i below -1", x -> x.code(Due.row(5, 6), 2, -2), OUTSIDE);
        everywhere("31: UNKNOWN ahead of i", x -> x.code(Due.row(5, 24), 2, -2), UNKNOWN);
        everywhere("31: UNKNOWN ahead of two alike", x -> x.code(Due.row(24, 24), 2, 0), UNKNOWN);
        everywhere("31: UNKNOWN ahead of n 1", x -> x.code(Due.row(24), 1, 0), UNKNOWN);
        everywhere("31: UNKNOWN ahead of n 7", x -> x.code(Due.row(0, 1, 2, 3, 4, 5, 24), 7, 0), UNKNOWN);
        everywhere("31: UNKNOWN ahead of NONE", x -> x.code(Due.row(5, 24), 2, 2), UNKNOWN);
    }

    private static void whatOnlyTellsChangesNothing() {
        Due.Call[] calls = {x -> x.away(0, 7), x -> x.like(0, 1), x -> x.corner(0, 0), x -> x.where(7), x -> x.fault(),
            x -> x.bars(7, 1), x -> x.due(), x -> x.laid(Due.row(9, 3, 7), 3, -1), x -> x.cost(1),
            x -> x.plan(4, Due.minutes(99, 99, 99, 99), -1), x -> x.judge(Due.rooms(0, 1, 8), 3, Due.minutes(99, 99, 0)),
            x -> x.right(0, 1), x -> x.causes(0, 0), x -> x.asked(7, 0), x -> x.beside(7, 0), x -> x.pupil(3, 3),
            x -> x.code(Due.row(9, 3, 7), 3, -1), x -> x.enough(12), x -> x.count(4)};
        for (int i = 0; i < calls.length; i++) {
            for (Palaces kind : Palaces.values()) {
                due.leaves("call " + i + " that only tells", kind, calls[i], calls[i].on(kind.make()));
            }
        }
    }
}
