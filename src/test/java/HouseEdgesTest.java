/** Promises 1 to 13 at their edges: the first and the last, the empty and the full, one more and one less. */
public final class HouseEdgesTest {

    private static final int NONE = PalaceOfRooms.NONE, NOT = PalaceOfRooms.NOT, FULL = PalaceOfRooms.FULL,
            OUTSIDE = PalaceOfRooms.OUTSIDE;
    private static final Due due = new Due();

    public static void main(String[] args) {
        newObjectTwice();
        theLastCallThatIsPromised();
        eachTwoRoomsOnce();
        fourteenDoorsWhicheverTheyAre();
        farthestAway();
        fewestDoors();
        eachMarkAlone();
        likeFromNoneToAll();
        tellFromOneToEight();
        gainFromNoneToAll();
        classesBeginAndEnd();
        zeroAtLeast();
        eachCorner();
        thingsAllOnTop();
        coveredByTheSameDay();
        ghostOfOneAndOfNone();
        ghostThatWasThere();
        ghostPutBack();
        cornerAfterClear();
        dayOfPut();
        lastDay();
        manyDaysAsOneByOne();
        crowdOfNoneToFive();
        crowdOfNoStrength();
        ghostThatFallsToOneAndToNone();
        roomsBesideAreNotWalked();
        walkOfEachStrength();
        due.end();
    }

    private static void newObjectTwice() {
        PalaceOfRooms one = Palaces.FULL_HOUSE.make();
        PalaceOfRooms two = new PalaceOfRooms();
        for (int what = 0; what <= 6; what++) {
            due.isNot("1: the full house has count(" + what + ")", one.count(what), 0);
            due.is("1: a new object has none of it", two.count(what), 0);
        }
        due.is("1: no ROOM is DUE", two.due(), 0);
        due.is("1: THE TEXT is empty", two.fault(), 0);
        for (int room = 0; room < 8; room++) {
            due.is("1: only ROOM 0 is reached", two.cost(room), room == 0 ? 0 : NONE);
            due.is("1: a new ROOM bars nothing", two.bars(0, 6 * room), 0);
        }
        for (int a = 0; a < 10; a++) {
            for (int b = 0; b < a; b++) {
                due.is("1: FIGURES are not alike", two.figures(a, b, 0), 0);
            }
        }
    }

    private static void theLastCallThatIsPromised() {
        PalaceOfRooms x = new PalaceOfRooms();
        for (int call = 1; call < 511; call++) {
            x.put(call % 24, call % 48);
        }
        due.is("1: call 511", x.marks(0, 7), 0);
        due.is("1: call 512", x.marks(0, 0), 7);
    }

    private static void eachTwoRoomsOnce() {
        for (int a = 0; a < 8; a++) {
            for (int b = 0; b < 8; b++) {
                if (a != b) {
                    PalaceOfRooms x = new PalaceOfRooms();
                    due.is("2: the first DOOR", x.door(a, b), 1);
                    due.is("2: it is there", x.door(a, b), NOT);
                    due.is("2: it is there from its other side", x.door(b, a), NOT);
                    due.is("2: it leads there", x.away(a, b), 1);
                    due.is("2: and back", x.away(b, a), 1);
                    due.is("2: one DOOR", x.count(1), 1);
                }
            }
        }
    }

    /** There could be 28 DOORS: the first 14 come, in whatever order, and no other behind them. */
    private static void fourteenDoorsWhicheverTheyAre() {
        for (int first = 0; first < 28; first++) {
            PalaceOfRooms x = new PalaceOfRooms();
            for (int i = 0; i < 28; i++) {
                int pair = (first + 5 * i) % 28;
                int a = 0;
                while (pair >= 7 - a) {
                    pair -= 7 - a;
                    a++;
                }
                due.is("2: DOOR " + i, x.door(a, a + 1 + pair), i < 14 ? i + 1 : FULL);
            }
            due.is("2: DOORS", x.count(1), 14);
        }
    }

    private static void farthestAway() {
        PalaceOfRooms x = new PalaceOfRooms();
        for (int room = 0; room < 8; room++) {
            due.is("3: a ROOM from itself", x.away(room, room), 0);
        }
        for (int room = 0; room < 7; room++) {
            due.is("3: without the last DOOR", x.away(7, 0), NONE);
            x.door(room, room + 1);
        }
        due.is("3: the farthest", x.away(7, 0), 7);
        due.is("3: the farthest", x.away(0, 7), 7);
        for (int room = 0; room < 8; room++) {
            due.is("3: a ROOM from itself", x.away(room, room), 0);
        }
    }

    private static void fewestDoors() {
        PalaceOfRooms x = Palaces.FULL_HOUSE.make();
        int[] fromSeven = {1, 2, 2, 2, 2, 2, 1, 0};
        for (int room = 0; room < 8; room++) {
            due.is("3: the fewest of several ways", x.away(7, room), fromSeven[room]);
        }
        PalaceOfRooms y = new PalaceOfRooms();
        for (int room = 0; room < 7; room++) {
            y.door(room, room + 1);
        }
        y.door(2, 6);
        due.is("3: one DOOR shortens other ways", y.away(0, 7), 4);
        due.is("3: one DOOR shortens other ways", y.away(1, 5), 3);
        due.is("3: it leaves others", y.away(3, 5), 2);
    }

    private static void eachMarkAlone() {
        PalaceOfRooms x = new PalaceOfRooms();
        for (int bit = 0; bit < 8; bit++) {
            due.is("4: the MARKS ahead of it", x.marks(0, 1 << bit), bit == 0 ? 0 : 1 << bit - 1);
            due.is("4: one MARK", x.like(0, 0), 1);
        }
        for (int thing = 1; thing < 24; thing++) {
            due.is("4: none at first", x.marks(thing, 255), 0);
        }
        due.is("4: the others keep theirs", x.marks(0, 0), 128);
        due.is("4: the others keep theirs", x.marks(23, 0), 255);
    }

    private static void likeFromNoneToAll() {
        PalaceOfRooms x = new PalaceOfRooms();
        x.marks(0, 255);
        for (int marks = 0; marks <= 8; marks++) {
            x.marks(23, (1 << marks) - 1);
            due.is("5: LIKE in " + marks, x.like(0, 23), marks);
            due.is("5: LIKE in " + marks, x.like(23, 0), marks);
        }
        x.marks(0, 0b01010101);
        x.marks(23, 0b10101010);
        due.is("5: eight MARKS, none of both", x.like(0, 23), 0);
    }

    /** LIKE in TELL MARKS is enough, in one less it is not. */
    private static void tellFromOneToEight() {
        for (int tell = 1; tell <= 8; tell++) {
            for (int marks = 0; marks <= 8; marks++) {
                PalaceOfRooms x = new PalaceOfRooms();
                x.marks(0, 255);
                x.marks(1, (1 << marks) - 1);
                x.put(0, 0);
                x.put(1, 5);
                due.is("6: TELL", x.set(0, tell), 4);
                x.days(1);
                due.is("6: TELL " + tell + ", LIKE in " + marks, x.corner(0, 1), marks >= tell ? 94 : 95);
                due.is("6: TELL " + tell + ", LIKE in " + marks, x.corner(5, 1), marks >= tell ? 94 : 95);
            }
        }
    }

    private static void gainFromNoneToAll() {
        for (int gain = 0; gain <= 100; gain++) {
            PalaceOfRooms x = Palaces.withStrength(0);
            due.is("6: GAIN", x.set(1, gain), 50);
            due.is("13: from 0 by GAIN " + gain, x.walk(0), gain);
            due.is("13: from 0 by GAIN " + gain, x.corner(0, 1), gain);
        }
    }

    /** Only one class falls: its first and its last STRENGTH do, what is beside them does not. */
    private static void classesBeginAndEnd() {
        for (int klass = 0; klass <= 10; klass++) {
            int first = 10 * klass;
            int last = Math.min(100, first + 9);
            for (int strength = Math.max(0, first - 1); strength <= Math.min(100, last + 1); strength++) {
                boolean falls = strength >= first && strength <= last;
                PalaceOfRooms x = Palaces.withStrength(strength);
                due.is("7: FALL was 0", x.fall(klass, 1), 0);
                x.days(1);
                int behind = falls ? Math.max(0, strength - 1) : strength;
                due.is("7: class " + klass + ", STRENGTH " + strength, x.corner(0, 1), behind);
            }
        }
    }

    private static void zeroAtLeast() {
        for (int strength = 0; strength <= 31; strength++) {
            PalaceOfRooms x = Palaces.withStrength(strength);
            Palaces.fallEachBy(x, 30);
            x.days(1);
            due.is("12: 0 at least", x.corner(0, 1), strength == 31 ? 1 : 0);
            due.is("12: it stays", x.corner(0, 0), 0);
            due.is("12: it stays", x.where(0), 0);
            x.days(1);
            due.is("12: 0 stays 0", x.corner(0, 1), 0);
            due.is("12: ON TOP", x.count(2), 1);
        }
    }

    private static void eachCorner() {
        for (int corner = 0; corner < 48; corner++) {
            PalaceOfRooms x = new PalaceOfRooms();
            due.is("8: covers nothing", x.put(23, corner), NONE);
            due.is("11: where", x.where(23), corner);
            for (int other = 0; other < 48; other++) {
                due.is("10: in this CORNER alone", x.corner(other, 0), other == corner ? 23 : NONE);
            }
            due.is("8: covers", x.put(0, corner), 23);
            due.is("9: taken off", x.clear(corner), 0);
            due.is("9: nothing is left", x.count(2) + x.count(3), 0);
        }
    }

    private static void thingsAllOnTop() {
        PalaceOfRooms x = new PalaceOfRooms();
        for (int thing = 0; thing < 24; thing++) {
            due.is("8: covers nothing", x.put(thing, 47 - thing), NONE);
        }
        for (int thing = 0; thing < 24; thing++) {
            due.is("8: each is ON TOP", x.put(thing, thing), NOT);
            due.is("11: where it was PUT", x.where(thing), 47 - thing);
        }
        due.is("33: all STRENGTH", x.count(4), 2400);
    }

    private static void coveredByTheSameDay() {
        PalaceOfRooms x = new PalaceOfRooms();
        due.is("8: covers nothing", x.put(0, 3), NONE);
        due.is("8: covers", x.put(1, 3), 0);
        due.is("8: a GHOST of STRENGTH 100", x.corner(3, 3), 100);
        due.is("8: covers", x.put(2, 3), 1);
        due.is("8: the GHOST is what was ON TOP last", x.corner(3, 2), 1);
        due.is("8: one GHOST", x.count(3), 1);
    }

    private static void ghostOfOneAndOfNone() {
        for (int strength = 0; strength <= 100; strength++) {
            PalaceOfRooms x = Palaces.withStrength(strength);
            due.is("8: covers STRENGTH " + strength, x.put(1, 0), 0);
            due.is("8: its GHOST", x.corner(0, 2), strength == 0 ? NONE : 0);
            due.is("8: STRENGTH of that", x.corner(0, 3), strength == 0 ? NONE : strength);
            due.is("8: GHOSTS", x.count(3), strength == 0 ? 0 : 1);
            due.is("8: ON TOP with 100", x.corner(0, 1), 100);
            due.is("8: what is covered is nowhere", x.where(0), NONE);
        }
    }

    /** A GHOST does not fall here, what is ON TOP does, beside ones like it. */
    private static PalaceOfRooms withOldGhost(int days) {
        PalaceOfRooms x = Palaces.withStrength(95);
        x.put(1, 0);
        x.put(2, 1);
        x.put(3, 2);
        for (int thing = 1; thing <= 3; thing++) {
            x.marks(thing, 255);
        }
        x.days(days / 2);
        x.days(days - days / 2);
        return x;
    }

    private static void ghostThatWasThere() {
        PalaceOfRooms one = withOldGhost(49);
        due.is("8: what is covered has", one.corner(0, 1), 2);
        due.is("8: covers", one.put(4, 0), 1);
        due.is("8: another GHOST takes its place", one.corner(0, 2), 1);
        due.is("8: with its own STRENGTH", one.corner(0, 3), 2);
        PalaceOfRooms none = withOldGhost(50);
        due.is("8: what is covered has", none.corner(0, 1), 0);
        due.is("8: the GHOST ahead of it", none.corner(0, 3), 95);
        due.is("8: covers", none.put(4, 0), 1);
        due.is("8: of 0 there is none, and the other is gone", none.corner(0, 2), NONE);
        due.is("8: of 0 there is none, and the other is gone", none.corner(0, 3), NONE);
        due.is("8: GHOSTS", none.count(3), 0);
    }

    private static void ghostPutBack() {
        PalaceOfRooms x = new PalaceOfRooms();
        x.put(0, 0);
        x.days(1);
        x.put(1, 0);
        x.days(1);
        due.is("8: a GHOST is PUT over what covers it", x.put(0, 0), 1);
        due.is("8: ON TOP anew", x.corner(0, 1), 100);
        due.is("8: the other is its GHOST", x.corner(0, 2), 1);
        due.is("8: with its STRENGTH", x.corner(0, 3), 95);
        x.put(2, 0);
        x.put(0, 9);
        due.is("8: a GHOST here is ON TOP elsewhere", x.corner(0, 2), 0);
        due.is("8: a GHOST here is ON TOP elsewhere", x.corner(9, 0), 0);
        due.is("11: where it is ON TOP", x.where(0), 9);
        x.put(3, 9);
        due.is("8: a GHOST in two CORNERS", x.corner(0, 2), 0);
        due.is("8: a GHOST in two CORNERS", x.corner(9, 2), 0);
        due.is("33: two GHOSTS", x.count(3), 2);
    }

    private static void cornerAfterClear() {
        PalaceOfRooms x = new PalaceOfRooms();
        x.days(2);
        x.put(0, 47);
        x.put(1, 47);
        x.put(0, 46);
        x.days(3);
        due.is("9: clear(47)", x.clear(47), 1);
        int[] left = {NONE, NONE, NONE, NONE, 2};
        for (int what = 0; what <= 4; what++) {
            due.is("10: cleared, " + what, x.corner(47, what), left[what]);
        }
        due.is("9: the CORNER beside it stays", x.corner(46, 1), 85);
        due.is("9: all STRENGTH", x.count(4), 85);
        due.is("9: PUT there anew", x.put(1, 47), NONE);
        due.is("9: no GHOST is left", x.corner(47, 2), NONE);
        due.is("10: the DAY of the last", x.corner(47, 4), 5);
    }

    private static void dayOfPut() {
        PalaceOfRooms x = new PalaceOfRooms();
        due.is("10: never", x.corner(0, 4), NONE);
        x.put(0, 0);
        due.is("10: on DAY 0", x.corner(0, 4), 0);
        x.days(1);
        due.is("10: still", x.corner(0, 4), 0);
        x.put(1, 0);
        due.is("10: on DAY 1", x.corner(0, 4), 1);
        due.is("10: never", x.corner(1, 4), NONE);
        due.is("8: a refused put", x.put(1, 1), NOT);
        due.is("10: never", x.corner(1, 4), NONE);
    }

    private static void lastDay() {
        PalaceOfRooms x = Palaces.LAST_DAY.make();
        due.is("8: PUT on DAY 400", x.put(23, 47), NONE);
        due.is("10: DAY 400", x.corner(47, 4), 400);
        due.is("13: walked on DAY 400", x.walk(7), 0);
        due.is("12: no DAY more", x.days(1), OUTSIDE);
        for (int from = 340; from <= 400; from++) {
            PalaceOfRooms y = new PalaceOfRooms();
            for (int i = 0; i < 5; i++) {
                y.days(60);
            }
            y.days(from - 300 > 60 ? 60 : from - 300);
            if (from > 360) {
                y.days(from - 360);
            }
            due.is("12: THE DAY", y.count(0), from);
            if (from > 340) {
                due.is("12: one beyond 400", y.days(401 - from), OUTSIDE);
            }
            if (from < 400) {
                due.is("12: up to 400", y.days(400 - from), 400);
            }
            due.is("12: THE DAY", y.count(0), 400);
        }
    }

    private static void manyDaysAsOneByOne() {
        for (int n = 1; n <= 60; n++) {
            PalaceOfRooms once = Palaces.FULL_HOUSE.make();
            PalaceOfRooms often = Palaces.FULL_HOUSE.make();
            once.days(n);
            for (int i = 0; i < n; i++) {
                often.days(1);
            }
            for (int corner = 0; corner < 48; corner++) {
                due.is("12: ON TOP behind " + n, once.corner(corner, 1), often.corner(corner, 1));
                due.is("12: GHOST behind " + n, once.corner(corner, 2), often.corner(corner, 2));
                due.is("12: of STRENGTH", once.corner(corner, 3), often.corner(corner, 3));
            }
        }
    }

    /** One to six THINGS in a ROOM, all alike: each falls by one more for each other one. */
    private static void crowdOfNoneToFive() {
        for (int room = 0; room < 8; room++) {
            for (int things = 1; things <= 6; things++) {
                PalaceOfRooms x = Palaces.withoutFall();
                for (int thing = 0; thing < 24; thing++) {
                    x.marks(thing, 15);
                }
                for (int thing = 0; thing < things; thing++) {
                    x.put(thing, 6 * room + thing);
                }
                x.put(22, 6 * ((room + 1) % 8));
                x.put(23, 6 * ((room + 7) % 8) + 5);
                x.days(1);
                for (int thing = 0; thing < things; thing++) {
                    due.is("12: " + things + " in ROOM " + room, x.corner(6 * room + thing, 1), 101 - things);
                }
                due.is("12: the ROOM behind", x.corner(6 * ((room + 1) % 8), 1), 100);
                due.is("12: the ROOM ahead", x.corner(6 * ((room + 7) % 8) + 5, 1), 100);
            }
        }
    }

    /** What is ON TOP with STRENGTH 0 stays, so it still makes others fall; beside five, 0 is the least. */
    private static void crowdOfNoStrength() {
        PalaceOfRooms x = Palaces.withStrength(0);
        x.set(0, 1);
        x.marks(0, 1);
        x.marks(1, 1);
        x.put(1, 1);
        x.days(1);
        due.is("12: beside one of STRENGTH 0", x.corner(1, 1), 99);
        due.is("12: 0 stays 0", x.corner(0, 1), 0);
        for (int strength = 1; strength <= 6; strength++) {
            PalaceOfRooms y = Palaces.withStrength(strength);
            y.marks(0, 15);
            for (int thing = 1; thing < 6; thing++) {
                y.marks(thing, 15);
                y.put(thing, thing);
            }
            y.days(1);
            due.is("12: beside five", y.corner(0, 1), Math.max(0, strength - 5));
        }
    }

    private static void ghostThatFallsToOneAndToNone() {
        for (int by = 0; by <= 30; by++) {
            PalaceOfRooms x = Palaces.withStrength(9);
            x.put(1, 0);
            x.fall(0, by);
            x.days(1);
            due.is("12: a GHOST of 9 falls by " + by, x.corner(0, 3), by >= 9 ? NONE : 9 - by);
            due.is("12: a GHOST of 0 is gone", x.corner(0, 2), by >= 9 ? NONE : 0);
            due.is("12: GHOSTS", x.count(3), by >= 9 ? 0 : 1);
            due.is("12: ON TOP it stays", x.corner(0, 0), 1);
        }
    }

    private static void roomsBesideAreNotWalked() {
        for (int room = 0; room < 8; room++) {
            PalaceOfRooms x = new PalaceOfRooms();
            for (int thing = 0; thing < 24; thing++) {
                x.put(thing, thing % 3 == 0 ? 6 * (thing / 3) : 6 * (thing / 3) + 3 + thing % 3);
            }
            x.days(2);
            due.is("13: three THINGS of 90", x.walk(room), 15);
            for (int corner = 0; corner < 48; corner++) {
                if (x.corner(corner, 0) != NONE) {
                    due.is("13: CORNER " + corner, x.corner(corner, 1), corner / 6 == room ? 95 : 90);
                }
            }
        }
    }

    private static void walkOfEachStrength() {
        for (int strength = 0; strength <= 100; strength++) {
            PalaceOfRooms x = Palaces.withStrength(strength);
            int came = (100 - strength) / 2;
            due.is("13: came to " + strength, x.walk(0), came);
            due.is("13: it has", x.corner(0, 1), strength + came);
            x.set(1, 100);
            due.is("13: all the rest came", x.walk(0), 100 - strength - came);
            due.is("13: to 100 nothing comes", x.walk(0), 0);
            due.is("13: it has", x.corner(0, 1), 100);
        }
    }
}
