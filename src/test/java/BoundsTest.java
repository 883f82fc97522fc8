import java.util.Arrays;
import java.util.LinkedHashSet;
import java.util.Set;

/** Promises 2 to 33: each number at both its ends, the last that is as told and the first that is not. */
public final class BoundsTest {

    private static final int UNKNOWN = PalaceOfRooms.UNKNOWN, OUTSIDE = PalaceOfRooms.OUTSIDE;
    private static final Due due = new Due();

    private interface NumberCall {
        int on(PalaceOfRooms x, int v);
    }

    public static void main(String[] args) {
        house();
        rulesAndSpeeches();
        plansAndSlips();
        pupilsAndFigures();
        thingsOfRows();
        placesOfRows();
        roomsOfPlans();
        minutesOfPlans();
        daysOfPlans();
        due.end();
    }

    /** Taken from least to most; beside it, and far off, refused with nothing changed, however the palace stands. */
    private static void bounds(String number, int least, int most, int refusal, NumberCall call) {
        for (Palaces kind : Palaces.values()) {
            due.isNot(number + " of " + least + ", " + kind, call.on(kind.make(), least), refusal);
            due.isNot(number + " of " + most + ", " + kind, call.on(kind.make(), most), refusal);
            for (int v : notAsTold(least, most)) {
                due.leaves(number + " of " + v, kind, x -> call.on(x, v), refusal);
            }
        }
    }

    /** Beside both ends, as far off as can be, and what would be as told if bits were cut off. */
    private static Set<Integer> notAsTold(int least, int most) {
        Set<Integer> not = new LinkedHashSet<>(Arrays.asList(least - 1, most + 1, Integer.MIN_VALUE,
                Integer.MIN_VALUE + most, Integer.MAX_VALUE, least + 256, most + 65536, -most - 2));
        not.removeIf(v -> v >= least && v <= most);
        return not;
    }

    private static void room(String number, NumberCall call) {
        bounds(number + ": ROOM", 0, 7, UNKNOWN, call);
    }

    private static void corner(String number, NumberCall call) {
        bounds(number + ": CORNER", 0, 47, UNKNOWN, call);
    }

    private static void thing(String number, NumberCall call) {
        bounds(number + ": THING", 0, 23, UNKNOWN, call);
    }

    private static void house() {
        room("2: door(a, ..)", (x, v) -> x.door(v, 4));
        room("2: door(.., b)", (x, v) -> x.door(4, v));
        room("3: away(a, ..)", (x, v) -> x.away(v, 4));
        room("3: away(.., b)", (x, v) -> x.away(4, v));
        thing("4: marks(thing, ..)", (x, v) -> x.marks(v, 1));
        bounds("4: MARKS", 0, 255, OUTSIDE, (x, v) -> x.marks(23, v));
        thing("5: like(one, ..)", (x, v) -> x.like(v, 1));
        thing("5: like(.., two)", (x, v) -> x.like(1, v));
        bounds("6: what", 0, 1, OUTSIDE, (x, v) -> x.set(v, 5));
        bounds("6: TELL", 1, 8, OUTSIDE, (x, v) -> x.set(0, v));
        bounds("6: GAIN", 0, 100, OUTSIDE, (x, v) -> x.set(1, v));
        bounds("7: class", 0, 10, OUTSIDE, (x, v) -> x.fall(v, 1));
        bounds("7: FALL of class 0", 0, 30, OUTSIDE, (x, v) -> x.fall(0, v));
        bounds("7: FALL of class 10", 0, 30, OUTSIDE, (x, v) -> x.fall(10, v));
        thing("8: put(thing, ..)", (x, v) -> x.put(v, 5));
        corner("8: put(.., corner)", (x, v) -> x.put(23, v));
        corner("9: clear(corner)", (x, v) -> x.clear(v));
        corner("10: corner(corner, ..)", (x, v) -> x.corner(v, 0));
        bounds("10: what", 0, 4, OUTSIDE, (x, v) -> x.corner(0, v));
        thing("11: where(thing)", (x, v) -> x.where(v));
        days();
        room("13: walk(room)", (x, v) -> x.walk(v));
    }

    /** On DAY 400 no number of DAYS is as told. */
    private static void days() {
        for (Palaces kind : new Palaces[] {Palaces.EMPTY, Palaces.FULL_HOUSE}) {
            int day = kind.make().count(0);
            due.is("12: n of 1, " + kind, kind.make().days(1), day + 1);
            due.is("12: n of 60, " + kind, kind.make().days(60), day + 60);
        }
        for (Palaces kind : Palaces.values()) {
            for (int v : notAsTold(1, 60)) {
                due.leaves("12: n of " + v, kind, x -> x.days(v), OUTSIDE);
            }
        }
        due.leaves("12: n of 1 beyond 400", Palaces.LAST_DAY, x -> x.days(1), OUTSIDE);
        due.leaves("12: n of 60 beyond 400", Palaces.LAST_DAY, x -> x.days(60), OUTSIDE);
    }

    private static void rulesAndSpeeches() {
        bounds("14: n", 1, 8, OUTSIDE, (x, v) -> x.write(0, v));
        thing("18: bars(thing, ..)", (x, v) -> x.bars(v, 0));
        corner("18: bars(.., corner)", (x, v) -> x.bars(0, v));
        bounds("20: n", 1, 8, OUTSIDE, (x, v) -> x.laid(Due.row(0, 1, 2, 3, 4, 5, 6, 7, 8, 9, 10, 11), v, 0));
        bounds("20: i", -1, Integer.MAX_VALUE, OUTSIDE, (x, v) -> x.laid(Due.row(0, 1), 2, v));
    }

    private static void plansAndSlips() {
        room("21: cost(room)", (x, v) -> x.cost(v));
        bounds("22: n", 1, 4, OUTSIDE, (x, v) -> x.plan(v, 0, -1));
        for (int n = 1; n <= 4; n++) {
            int days = n;
            bounds("22: what of " + n, -1, n - 1, OUTSIDE, (x, v) -> x.plan(days, 0, v));
        }
        bounds("23: n", 1, 4, OUTSIDE, (x, v) -> x.judge(0x88888888, v, 0));
        corner("24: right(corner, ..)", (x, v) -> x.right(v, 0));
        bounds("24: part", 0, 1, OUTSIDE, (x, v) -> x.right(0, v));
        corner("25: causes(corner, ..)", (x, v) -> x.causes(v, 0));
        thing("25: causes(.., said)", (x, v) -> x.causes(0, v));
        thing("26: asked(thing, ..)", (x, v) -> x.asked(v, 0));
        room("26: asked(.., room)", (x, v) -> x.asked(0, v));
        thing("27: beside(thing, ..)", (x, v) -> x.beside(v, 0));
        bounds("27: side", 0, 1, OUTSIDE, (x, v) -> x.beside(0, v));
    }

    private static void pupilsAndFigures() {
        bounds("28: PUPIL", 0, 3, UNKNOWN, (x, v) -> x.answer(v, 1, true));
        bounds("28: d, right", 1, 60, OUTSIDE, (x, v) -> x.answer(0, v, true));
        bounds("28: d, wrong", 1, 60, OUTSIDE, (x, v) -> x.answer(3, v, false));
        bounds("29: PUPIL", 0, 3, UNKNOWN, (x, v) -> x.pupil(v, 0));
        bounds("29: what", 0, 3, OUTSIDE, (x, v) -> x.pupil(0, v));
        bounds("30: figures(a, ..)", 0, 9, UNKNOWN, (x, v) -> x.figures(v, 4, 1));
        bounds("30: figures(.., b, ..)", 0, 9, UNKNOWN, (x, v) -> x.figures(4, v, 1));
        bounds("30: how alike", 0, 9, OUTSIDE, (x, v) -> x.figures(8, 9, v));
        bounds("31: n", 2, 6, OUTSIDE, (x, v) -> x.code(Due.row(0, 1, 2, 3, 4, 5, 6, 7, 8, 9, 10, 11), v, 0));
        bounds("31: i", -1, Integer.MAX_VALUE, OUTSIDE, (x, v) -> x.code(Due.row(0, 1), 2, v));
        bounds("32: CORNERS told", 0, 48, OUTSIDE, (x, v) -> x.enough(v));
        bounds("33: what", 0, 6, OUTSIDE, (x, v) -> x.count(v));
    }

    private static long rowWith(int n, int place, int thing) {
        int[] things = new int[n];
        for (int k = 0; k < n; k++) {
            things[k] = k == place ? thing : k;
        }
        return Due.row(things);
    }

    /** Five bits hold 0 .. 31: THING 23 is as told at each place of a row, 24 and 31 are not. */
    private static void thingsOfRows() {
        for (int place = 0; place < 8; place++) {
            int at = place;
            due.is("20: THING 23 at " + at, Palaces.EMPTY.make().laid(rowWith(8, at, 23), 8, 7), 23);
            for (int thing : new int[] {24, 31}) {
                for (Palaces kind : Palaces.values()) {
                    due.leaves("20: THING " + thing + " at " + at, kind, x -> x.laid(rowWith(8, at, thing), 8, 0), UNKNOWN);
                }
            }
        }
        for (int place = 0; place < 6; place++) {
            int at = place;
            due.is("31: THING 23 at " + at, Palaces.EMPTY.make().code(rowWith(6, at, 23), 6, at), 23);
            for (int thing : new int[] {24, 31}) {
                for (Palaces kind : Palaces.values()) {
                    due.leaves("31: THING " + thing + " at " + at, kind, x -> x.code(rowWith(6, at, thing), 6, 0), UNKNOWN);
                }
            }
        }
    }

    /** What stands in a row behind its n THINGS is not told, be it unknown, alike or the sign of the number. */
    private static void placesOfRows() {
        PalaceOfRooms x = new PalaceOfRooms();
        for (int n = 1; n <= 8; n++) {
            long told = rowWith(n, n - 1, 20);
            long beyond = -1L << 5 * n;
            due.is("20: all bits behind " + n, x.laid(told | beyond, n, n - 1), 20);
            due.is("20: no bits behind " + n, x.laid(told, n, n - 1), 20);
            due.is("20: THING n of " + n, x.laid(told | beyond, n, n), PalaceOfRooms.NONE);
        }
        for (int n = 2; n <= 6; n++) {
            long told = rowWith(n, n - 1, 20);
            long beyond = -1L << 5 * n;
            due.is("31: all bits behind " + n, x.code(told | beyond, n, n - 1), 20);
            due.is("31: no bits behind " + n, x.code(told, n, n - 1), 20);
            due.is("31: FIGURE n of " + n, x.code(told | beyond, n, n), PalaceOfRooms.NONE);
        }
    }

    /** Four bits hold 0 .. 15: 8 is none on each DAY, 9 and 15 are not as told. */
    private static void roomsOfPlans() {
        for (int n = 1; n <= 4; n++) {
            int days = n;
            for (int i = 0; i < n; i++) {
                int at = 4 * i;
                int others = 0x8888 & ~(15 << at);
                for (Palaces kind : Palaces.values()) {
                    due.isNot("23: none on DAY " + i, kind.make().judge(others | 8 << at, n, 0), OUTSIDE);
                    due.isNot("23: ROOM 7 on DAY " + i, kind.make().judge(others | 7 << at, n, 0), OUTSIDE);
                    due.leaves("23: ROOM 9 on DAY " + i, kind, x -> x.judge(others | 9 << at, days, 0), OUTSIDE);
                    due.leaves("23: ROOM 15 on DAY " + i, kind, x -> x.judge(others | 15 << at, days, 0), OUTSIDE);
                }
            }
            int behind = -1 << 4 * n;
            due.is("23: ROOMS behind " + n + " DAYS", new PalaceOfRooms().judge(0x8888 & ~behind | behind, n, 0), 0);
        }
    }

    /** Seven bits hold 0 .. 127: 99 MINUTES are as told on each DAY, 100 and 127 are not. */
    private static void minutesOfPlans() {
        for (int n = 1; n <= 4; n++) {
            int days = n;
            for (int i = 0; i < n; i++) {
                int at = 7 * i;
                for (Palaces kind : Palaces.values()) {
                    due.isNot("22: 99 MINUTES of DAY " + i, kind.make().plan(n, 99 << at, -1), OUTSIDE);
                    due.isNot("23: 99 MINUTES of DAY " + i, kind.make().judge(0x8888, n, 99 << at), OUTSIDE);
                    for (int minutes : new int[] {100, 127}) {
                        int told = minutes << at;
                        String name = minutes + " MINUTES of DAY " + i + " of " + n;
                        due.leaves("22: " + name, kind, x -> x.plan(days, told, -1), OUTSIDE);
                        due.leaves("23: " + name, kind, x -> x.judge(0x8888, days, told), OUTSIDE);
                    }
                }
            }
            due.is("22: bits behind " + n + " DAYS", new PalaceOfRooms().plan(n, -1 << 7 * n, -1), 0);
            due.is("23: bits behind " + n + " DAYS", new PalaceOfRooms().judge(0x8888, n, -1 << 7 * n), 0);
        }
    }

    /** A PLAN is for DAYS that come, also on the last ones: only days() is told to look at 400. */
    private static void daysOfPlans() {
        PalaceOfRooms x = Palaces.LAST_DAY.make();
        int strength = x.count(4);
        due.isNot("22: on DAY 400", x.plan(4, 0, -1), OUTSIDE);
        due.isNot("23: on DAY 400", x.judge(0x8888, 4, 0), OUTSIDE);
        due.is("22: STRENGTH stays", x.count(4), strength);
        due.is("22: THE DAY stays", x.count(0), 400);
    }
}
