/** Promises 21 to 27: plans, slips. */
public final class PlansTest {

    private static final int NONE = PalaceOfRooms.NONE, UNKNOWN = PalaceOfRooms.UNKNOWN,
            OUTSIDE = PalaceOfRooms.OUTSIDE, NOT = PalaceOfRooms.NOT;
    private static final Due due = new Due();

    public static void main(String[] args) {
        cost();
        plan();
        planOfSeveral();
        planRefusals();
        judge();
        right();
        causes();
        asked();
        beside();
        due.end();
    }

    private static void cost() {
        PalaceOfRooms x = new PalaceOfRooms();
        due.is("21: ROOM 0, empty", x.cost(0), 0);
        due.is("21: no way", x.cost(7), NONE);
        x.door(0, 5);
        x.door(5, 7);
        due.is("21: two DOORS", x.cost(7), 4);
        x.put(0, 42);
        x.put(1, 42);
        x.put(2, 47);
        due.is("21: GHOSTS cost nothing", x.cost(7), 6);
        x.days(60);
        due.is("21: ON TOP of 0 costs", x.cost(7), 6);
        due.is("21: cost(8)", x.cost(8), UNKNOWN);
        due.is("21: cost(-1)", x.cost(-1), UNKNOWN);
    }

    private static void planIs(PalaceOfRooms x, int n, int minutes, int strength, int... rooms) {
        due.is("22: STRENGTH", x.plan(n, minutes, -1), strength);
        for (int i = 0; i < n; i++) {
            due.is("22: ROOM of DAY " + i, x.plan(n, minutes, i), rooms[i]);
        }
        due.is("23: judge() of the best PLAN", x.judge(Due.rooms(rooms), n, minutes), strength);
    }

    private static void plan() {
        PalaceOfRooms x = new PalaceOfRooms();
        x.door(0, 1);
        x.put(0, 0);
        x.put(1, 6);
        x.days(4);
        x.walk(0);
        // 90 in ROOM 0 (cost 1), 80 in ROOM 1 (cost 3).
        planIs(x, 1, Due.minutes(3), 85 + 85, 1);
        planIs(x, 1, Due.minutes(2), 90 + 75, 0);
        planIs(x, 1, Due.minutes(0), 85 + 75, 8);
        // 80 > 75 > 87 > 82, or 90 > 85 > 80: late walks bring more.
        planIs(x, 2, Due.minutes(3, 3), 87 + 80, 0, 1);
        planIs(x, 2, Due.minutes(99, 0), 80 + 80, 1, 8);
        due.is("22: nothing changed", x.count(0), 4);
        due.is("22: nothing changed", x.corner(0, 1), 90);
        due.is("22: nothing changed", x.corner(6, 1), 80);
    }

    private static void planOfSeveral() {
        PalaceOfRooms x = new PalaceOfRooms();
        planIs(x, 4, 0, 0, 0, 0, 0, 0);
        x.put(0, 42);
        planIs(x, 4, Due.minutes(99, 99, 99, 99), 80, 0, 0, 0, 0);
        x.put(1, 0);
        x.set(1, 0);
        planIs(x, 3, Due.minutes(1, 0, 1), 170, 0, 8, 0);
        // A walk that lifts into a class that falls faster loses more than it brings.
        PalaceOfRooms y = new PalaceOfRooms();
        y.put(0, 0);
        y.days(1);
        y.fall(9, 0);
        y.fall(10, 30);
        y.set(1, 100);
        planIs(y, 1, Due.minutes(99), 95, 8);
        PalaceOfRooms z = new PalaceOfRooms();
        z.door(0, 2);
        z.door(0, 1);
        z.put(0, 6);
        z.put(1, 12);
        z.days(10);
        planIs(z, 2, Due.minutes(99, 99), 65 + 67, 1, 2);
        z.marks(0, 1);
        z.marks(2, 1);
        z.set(0, 1);
        z.put(2, 7);
        due.is("22: one like it in the ROOM", z.plan(1, 0, -1), 44 + 94 + 45);
    }

    private static void planRefusals() {
        PalaceOfRooms x = new PalaceOfRooms();
        due.is("22: n 0", x.plan(0, 0, -1), OUTSIDE);
        due.is("22: n 5", x.plan(5, 0, 0), OUTSIDE);
        due.is("22: n least", x.plan(Integer.MIN_VALUE, 0, -1), OUTSIDE);
        due.is("22: what -2", x.plan(4, 0, -2), OUTSIDE);
        due.is("22: what 4", x.plan(4, 0, 4), OUTSIDE);
        due.is("22: what 1 of 1", x.plan(1, 0, 1), OUTSIDE);
        due.is("22: 100 MINUTES", x.plan(1, 100, 0), OUTSIDE);
        due.is("22: 100 MINUTES on the last DAY", x.plan(4, Due.minutes(0, 0, 0, 100), 0), OUTSIDE);
        due.is("22: 99 MINUTES on the last DAY", x.plan(4, Due.minutes(0, 0, 0, 99), -1), 0);
        due.is("22: beyond n", x.plan(3, Due.minutes(0, 0, 0, 100), -1), 0);
        due.is("22: all bits", x.plan(1, -1, 0), OUTSIDE);
    }

    private static void judge() {
        PalaceOfRooms x = new PalaceOfRooms();
        x.door(0, 1);
        x.put(0, 6);
        x.put(1, 7);
        x.days(10);
        due.is("23: none", x.judge(Due.rooms(8), 1, 0), 90);
        due.is("23: it costs 4", x.judge(Due.rooms(1), 1, 4), 140);
        due.is("23: it costs 4", x.judge(Due.rooms(1), 1, 3), NONE);
        due.is("23: MINUTES of the other DAY", x.judge(Due.rooms(8, 1), 2, Due.minutes(99, 3)), NONE);
        due.is("23: WALKED, then it goes by", x.judge(Due.rooms(8, 1), 2, Due.minutes(0, 4)), 134);
        due.is("23: twice", x.judge(Due.rooms(1, 1), 2, Due.minutes(4, 4)), 160);
        due.is("23: no way", x.judge(Due.rooms(2), 1, 99), NONE);
        due.is("23: no way, later", x.judge(Due.rooms(8, 8, 8, 2), 4, Due.minutes(99, 99, 99, 99)), NONE);
        due.is("23: ROOM 9", x.judge(9, 1, 0), OUTSIDE);
        due.is("23: ROOM 15", x.judge(Due.rooms(2, 15), 2, 0), OUTSIDE);
        due.is("23: ROOM 9 beyond n", x.judge(Due.rooms(8, 9), 1, 0), 90);
        due.is("23: n 0", x.judge(8, 0, 0), OUTSIDE);
        due.is("23: n 5", x.judge(0x88888, 5, 0), OUTSIDE);
        due.is("23: 100 MINUTES", x.judge(8, 1, 100), OUTSIDE);
        due.is("23: nothing changed", x.count(4), 100);
        due.is("23: nothing changed", x.count(0), 10);
    }

    private static void rightIs(PalaceOfRooms x, int corner, int above, int below) {
        due.is("24: above", x.right(corner, 0), above);
        due.is("24: below", x.right(corner, 1), below);
    }

    private static void right() {
        PalaceOfRooms x = new PalaceOfRooms();
        due.is("24: empty", x.right(0, 0), NOT);
        due.is("24: OUTSIDE goes ahead of NOT", x.right(0, 2), OUTSIDE);
        due.is("24: part -1", x.right(0, -1), OUTSIDE);
        due.is("24: UNKNOWN goes ahead of OUTSIDE", x.right(48, 2), UNKNOWN);
        due.is("24: right(-1, 0)", x.right(-1, 0), UNKNOWN);
        x.marks(0, 0b1111);
        x.marks(1, 0b1111);
        x.marks(2, 0b0111);
        x.marks(3, 0b1111);
        x.put(0, 0);
        x.days(2);
        rightIs(x, 0, 1, 1);
        x.put(1, 5);
        x.put(2, 1);
        x.put(3, 6);
        rightIs(x, 0, 9, 19);
        x.put(4, 0);
        rightIs(x, 0, 10, 19);
        x.put(0, 2);
        x.days(2);
        rightIs(x, 2, 1, 2);
        x.set(0, 3);
        // 88 by 88 + 88 + 90: beside one like it two of them fell faster.
        rightIs(x, 2, 44, 133);
        PalaceOfRooms y = new PalaceOfRooms();
        y.put(0, 0);
        y.days(60);
        due.is("24: all 0", y.right(0, 0), NOT);
        due.is("24: all 0", y.right(0, 1), NOT);
        y.marks(0, 255);
        y.marks(1, 255);
        y.put(1, 1);
        rightIs(y, 0, 0, 1);
        rightIs(y, 1, 1, 1);
    }

    private static void causes() {
        PalaceOfRooms x = new PalaceOfRooms();
        x.door(0, 1);
        x.door(1, 2);
        x.marks(0, 0b11111);
        x.marks(1, 0b01111);
        x.marks(2, 0b00111);
        x.put(1, 8);
        x.put(0, 8);
        x.put(2, 2);
        due.is("25: LIKE, and the GHOST", x.causes(8, 1), 3);
        due.is("25: through the DOOR", x.causes(8, 2), 4);
        due.is("25: through the DOOR, back", x.causes(2, 0), 4);
        due.is("25: a GHOST is not ON TOP", x.causes(2, 1), 0);
        due.is("25: it stands nowhere", x.causes(8, 9), 0);
        x.set(0, 3);
        due.is("25: LIKE, through the DOOR", x.causes(8, 2), 5);
        x.put(1, 14);
        due.is("25: all", x.causes(8, 1), 7);
        due.is("25: two DOORS off", x.causes(2, 1), 1);
        x.clear(14);
        x.put(1, 15);
        due.is("25: another number", x.causes(8, 1), 3);
        due.is("25: the one that stands there", x.causes(8, 0), NOT);
        due.is("25: empty", x.causes(9, 0), NOT);
        due.is("25: causes(48, 0)", x.causes(48, 0), UNKNOWN);
        due.is("25: causes(-1, 0)", x.causes(-1, 0), UNKNOWN);
        due.is("25: UNKNOWN goes ahead of NOT", x.causes(9, 24), UNKNOWN);
        due.is("25: causes(8, -1)", x.causes(8, -1), UNKNOWN);
    }

    private static void asked() {
        PalaceOfRooms x = new PalaceOfRooms();
        x.door(0, 1);
        x.door(1, 7);
        due.is("26: nowhere", x.asked(0, 0), NONE);
        x.put(0, 47);
        due.is("26: two DOORS, number 5", x.asked(0, 0), 2 + 5 + 1);
        due.is("26: in its ROOM", x.asked(0, 7), 5 + 1);
        due.is("26: no way", x.asked(0, 2), NONE);
        x.put(1, 47);
        due.is("26: a GHOST is nowhere", x.asked(0, 0), NONE);
        due.is("26: asked(24, 0)", x.asked(24, 0), UNKNOWN);
        due.is("26: asked(-1, 0)", x.asked(-1, 0), UNKNOWN);
        due.is("26: asked(2, 8)", x.asked(2, 8), UNKNOWN);
        due.is("26: asked(1, -1)", x.asked(1, -1), UNKNOWN);
    }

    private static void beside() {
        PalaceOfRooms x = new PalaceOfRooms();
        x.put(0, 6);
        x.put(1, 8);
        x.put(2, 11);
        x.put(3, 12);
        x.put(4, 5);
        due.is("27: behind", x.beside(0, 1), 1);
        due.is("27: behind", x.beside(1, 1), 2);
        due.is("27: the last in its ROOM", x.beside(2, 1), NONE);
        due.is("27: ahead", x.beside(2, 0), 1);
        due.is("27: ahead", x.beside(1, 0), 0);
        due.is("27: the first in its ROOM", x.beside(0, 0), NONE);
        due.is("27: the first of all CORNERS", new PalaceOfRooms().beside(0, 0), NONE);
        x.put(5, 0);
        due.is("27: ahead of corner 0", x.beside(5, 0), NONE);
        x.put(6, 47);
        due.is("27: behind corner 47", x.beside(6, 1), NONE);
        due.is("27: stands nowhere", x.beside(9, 1), NONE);
        due.is("27: side 2", x.beside(9, 2), OUTSIDE);
        due.is("27: side -1", x.beside(0, -1), OUTSIDE);
        due.is("27: beside(24, 2)", x.beside(24, 2), UNKNOWN);
        due.is("27: beside(-1, 0)", x.beside(-1, 0), UNKNOWN);
    }
}
