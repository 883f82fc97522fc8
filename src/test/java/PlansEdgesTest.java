/** Promises 21 to 27 at their edges: costs and MINUTES, chances of 0 and 1, the ends of ROOMS. */
public final class PlansEdgesTest {

    private static final int NONE = PalaceOfRooms.NONE, NOT = PalaceOfRooms.NOT;
    private static final int NO_ROOM = 8;
    private static final Due due = new Due();

    public static void main(String[] args) {
        costFromNoneToTheMost();
        planAtItsCost();
        planOnEachDay();
        planWhereNoRoomIsWalked();
        planOfTheEmptyPalace();
        planOfSeveral();
        planPrefersNone();
        planWithCrowdAndGhosts();
        judgeAtItsCost();
        judgeNoneOfAllDays();
        judgeDoesNotFallBelowNone();
        judgeWalksAhead();
        rightOfOneAlone();
        rightOfNoStrength();
        rightByItsGhost();
        rightByTell();
        rightByFiveOthers();
        rightInLowestTerms();
        causesByTell();
        causesByGhost();
        causesByDoors();
        causesTogether();
        askedFromLeastToMost();
        besideInEachCorner();
        besideOverEmptyCorners();
        due.end();
    }

    private static PalaceOfRooms rowOfRooms() {
        PalaceOfRooms x = new PalaceOfRooms();
        for (int room = 0; room < 7; room++) {
            x.door(room, room + 1);
        }
        return x;
    }

    private static void costFromNoneToTheMost() {
        PalaceOfRooms x = rowOfRooms();
        for (int room = 0; room < 8; room++) {
            due.is("21: an empty ROOM", x.cost(room), 2 * room);
        }
        for (int thing = 0; thing < 6; thing++) {
            x.put(thing, 42 + thing);
            due.is("21: one more ON TOP", x.cost(7), 15 + thing);
            x.put(6 + thing, thing);
            due.is("21: one more ON TOP", x.cost(0), 1 + thing);
            due.is("21: in another ROOM", x.cost(6), 12);
        }
        x.put(12, 47);
        due.is("21: a GHOST is not ON TOP", x.cost(7), 20);
        x.clear(47);
        due.is("21: one less ON TOP", x.cost(7), 19);
        PalaceOfRooms y = new PalaceOfRooms();
        y.put(0, 6);
        due.is("21: no way to it", y.cost(1), NONE);
        y.door(1, 2);
        due.is("21: no way to it", y.cost(1), NONE);
        y.door(2, 0);
        due.is("21: a way", y.cost(1), 5);
    }

    /** ROOM 7 with one THING costs 15: with 15 MINUTES it is walked, with 14 it is not. */
    private static void planAtItsCost() {
        PalaceOfRooms x = rowOfRooms();
        x.put(0, 42);
        x.days(10);
        due.is("22: as many MINUTES as it costs", x.plan(1, 15, 0), 7);
        due.is("22: as many MINUTES as it costs", x.plan(1, 15, -1), 70);
        due.is("22: one MINUTE less", x.plan(1, 14, 0), 0);
        due.is("22: one MINUTE less", x.plan(1, 14, -1), 45);
        due.is("22: most MINUTES", x.plan(1, 99, 0), 7);
        due.is("22: no MINUTES, an empty ROOM 0", x.plan(1, 0, 0), 0);
        x.put(1, 0);
        due.is("22: no MINUTES, one in ROOM 0", x.plan(1, 0, 0), NO_ROOM);
        due.is("22: one MINUTE, one in ROOM 0", x.plan(1, 1, 0), 0);
    }

    private static void planOnEachDay() {
        for (int n = 1; n <= 4; n++) {
            for (int day = 0; day < n; day++) {
                PalaceOfRooms x = rowOfRooms();
                x.put(0, 0);
                x.put(1, 12);
                x.days(10);
                x.walk(0);
                // Only on this DAY there are MINUTES: 5 for ROOM 2.
                int minutes = 5 << 7 * day;
                for (int i = 0; i < n; i++) {
                    due.is("22: DAY " + i + " of " + n, x.plan(n, minutes, i), i == day ? 2 : NO_ROOM);
                }
                int left = 50 - 5 * day;
                int second = left + (100 - left) / 2 - 5 * (n - day);
                due.is("22: STRENGTH", x.plan(n, minutes, -1), 75 - 5 * n + second);
                due.is("22: one MINUTE less", x.plan(n, minutes - (1 << 7 * day), day), 0);
                due.is("23: judged the same", x.judge(0x8888 & ~(15 << 4 * day) | 2 << 4 * day, n, minutes),
                        75 - 5 * n + second);
            }
        }
    }

    private static void planWhereNoRoomIsWalked() {
        PalaceOfRooms x = new PalaceOfRooms();
        x.put(0, 0);
        x.put(1, 6);
        // From long to short, so that nothing of a longer PLAN may be left.
        due.is("22: ROOM 0 on each DAY", x.plan(4, Due.minutes(1, 1, 1, 1), 3), 0);
        for (int n = 4; n >= 1; n--) {
            for (int i = 0; i < n; i++) {
                due.is("22: none on DAY " + i, x.plan(n, 0, i), NO_ROOM);
            }
            due.is("22: all fall", x.plan(n, 0, -1), 200 - 10 * n);
        }
    }

    private static void planOfTheEmptyPalace() {
        PalaceOfRooms x = new PalaceOfRooms();
        for (int n = 1; n <= 4; n++) {
            for (int minutes : new int[] {0, Due.minutes(99, 99, 99, 99)}) {
                due.is("22: nothing stands", x.plan(n, minutes, -1), 0);
                for (int i = 0; i < n; i++) {
                    due.is("22: ROOM 0 is the first", x.plan(n, minutes, i), 0);
                }
            }
        }
        PalaceOfRooms y = Palaces.withStrength(0);
        y.set(1, 0);
        due.is("22: all STRENGTH is 0", y.plan(4, 0, -1), 0);
        due.is("22: all STRENGTH is 0", y.plan(4, 0, 3), NO_ROOM);
    }

    /** Two ROOMS like one another: by DAYS, then by numbers; none comes behind ROOM 7. */
    private static void planOfSeveral() {
        PalaceOfRooms x = new PalaceOfRooms();
        x.door(0, 6);
        x.door(0, 7);
        x.put(0, 0);
        x.put(1, 36);
        x.put(2, 42);
        x.days(10);
        x.walk(0);
        due.is("22: of two ROOMS the first", x.plan(1, 99, 0), 6);
        // 50 and 50: walked on both DAYS, the one first or the other.
        due.is("22: by DAYS", x.plan(2, Due.minutes(99, 99), 0), 6);
        due.is("22: by DAYS", x.plan(2, Due.minutes(99, 99), 1), 7);
        x.set(1, 0);
        due.is("22: a walk that brings nothing, ahead of none", x.plan(1, 3, 0), 0);
        x.put(3, 1);
        x.put(4, 2);
        x.put(5, 3);
        due.is("22: ROOM 0 costs 4 now", x.plan(1, 3, 0), 6);
        x.put(6, 37);
        due.is("22: ROOM 6 costs 4 now", x.plan(1, 3, 0), 7);
        x.put(7, 43);
        due.is("22: ROOM 7 costs 4 now", x.plan(1, 3, 0), NO_ROOM);
        due.is("22: with one MINUTE more", x.plan(1, 4, 0), 0);
    }

    private static void planPrefersNone() {
        PalaceOfRooms x = Palaces.withStrength(89);
        x.fall(9, 30);
        due.is("22: walked, it would fall by 30", x.plan(1, 99, 0), NO_ROOM);
        due.is("22: walked, it would fall by 30", x.plan(1, 99, -1), 89);
        due.is("23: walked, it falls by 30", x.judge(0, 1, 99), 64);
        x.fall(9, 5);
        due.is("22: walked, it is as strong: the ROOM goes ahead", x.plan(1, 99, 0), 0);
        x.fall(9, 6);
        due.is("22: walked, it is weaker by one", x.plan(1, 99, 0), NO_ROOM);
    }

    private static void planWithCrowdAndGhosts() {
        PalaceOfRooms x = new PalaceOfRooms();
        x.put(0, 0);
        x.put(1, 0);
        x.put(2, 1);
        x.marks(0, 255);
        x.marks(1, 15);
        x.marks(2, 15);
        due.is("22: both fall by 6, the GHOST does not count", x.plan(1, 0, -1), 188);
        due.is("22: on each DAY", x.plan(4, 0, -1), 152);
        x.set(0, 5);
        due.is("22: LIKE in less than TELL", x.plan(4, 0, -1), 160);
        x.days(10);
        due.is("22: the GHOST is not walked past", x.plan(1, 2, -1), 140);
    }

    private static void judgeAtItsCost() {
        for (int n = 1; n <= 4; n++) {
            for (int day = 0; day < n; day++) {
                PalaceOfRooms x = rowOfRooms();
                x.put(0, 42);
                int row = 0x8888 & ~(15 << 4 * day) | 7 << 4 * day;
                int others = Due.minutes(99, 99, 99, 99) & ~(127 << 7 * day);
                due.isNot("23: as many MINUTES as it costs", x.judge(row, n, others | 15 << 7 * day), NONE);
                due.is("23: one MINUTE less", x.judge(row, n, others | 14 << 7 * day), NONE);
                due.is("23: no MINUTES", x.judge(row, n, others), NONE);
                due.isNot("23: no other MINUTES", x.judge(row, n, 15 << 7 * day), NONE);
            }
        }
        PalaceOfRooms y = new PalaceOfRooms();
        due.is("23: an empty ROOM 0 costs nothing", y.judge(0, 4, 0), 0);
        for (int room = 1; room < 8; room++) {
            due.is("23: no way", y.judge(room, 1, 99), NONE);
        }
    }

    private static void judgeNoneOfAllDays() {
        PalaceOfRooms x = new PalaceOfRooms();
        due.is("23: nothing stands", x.judge(0x8888, 4, 0), 0);
        for (int thing = 0; thing < 24; thing++) {
            x.put(thing, 2 * thing);
        }
        for (int n = 1; n <= 4; n++) {
            due.is("23: all things fall", x.judge(0x8888, n, 0), 2400 - 120 * n);
        }
    }

    private static void judgeDoesNotFallBelowNone() {
        PalaceOfRooms x = Palaces.withStrength(3);
        x.put(1, 1);
        x.fall(0, 30);
        due.is("23: 0 at least", x.judge(0x8888, 4, 0), 100);
        x.set(1, 1);
        due.is("23: WALKED, nothing comes of 97 by 1", x.judge(0, 1, 2), 100);
        x.fall(0, 3);
        due.is("23: of 0 by GAIN 1 there is 1, then 0", x.judge(Due.rooms(8, 0), 2, Due.minutes(0, 2)), 100);
    }

    private static void judgeWalksAhead() {
        PalaceOfRooms x = Palaces.withStrength(50);
        Palaces.fallEachBy(x, 10);
        due.is("23: 75, then 65", x.judge(0, 1, 1), 65);
        due.is("23: 40, then 70 less 10", x.judge(Due.rooms(8, 0), 2, Due.minutes(0, 1)), 60);
        due.is("23: four walks", x.judge(0, 4, Due.minutes(1, 1, 1, 1)), 78);
        due.is("23: nothing changes", x.corner(0, 1), 50);
        due.is("23: it is not WALKED", dueByWalkLine(x), 1);
    }

    private static int dueByWalkLine(PalaceOfRooms x) {
        Palaces.rule(x, "walk 0 every 99");
        return x.due();
    }

    private static void rightIs(String name, PalaceOfRooms x, int corner, int above, int below) {
        due.is("24: " + name + ", above", x.right(corner, 0), above);
        due.is("24: " + name + ", below", x.right(corner, 1), below);
    }

    private static void rightOfOneAlone() {
        for (int strength = 0; strength <= 100; strength++) {
            PalaceOfRooms x = Palaces.withStrength(strength);
            int part = strength == 0 ? NOT : 1;
            rightIs("alone with " + strength, x, 0, part, part);
        }
        for (int corner = 0; corner < 48; corner++) {
            PalaceOfRooms x = new PalaceOfRooms();
            rightIs("an empty CORNER", x, corner, NOT, NOT);
            x.put(0, corner);
            rightIs("one alone", x, corner, 1, 1);
            x.clear(corner);
            rightIs("a cleared CORNER", x, corner, NOT, NOT);
        }
    }

    private static void rightOfNoStrength() {
        PalaceOfRooms x = Palaces.withStrength(0);
        rightIs("all STRENGTHS are 0", x, 0, NOT, NOT);
        x.put(1, 1);
        rightIs("0, and one not LIKE it", x, 0, NOT, NOT);
        x.marks(0, 15);
        x.marks(1, 15);
        rightIs("0 of 100", x, 0, 0, 1);
        rightIs("100 of 100 and 0", x, 1, 1, 1);
        PalaceOfRooms y = Palaces.withStrength(1);
        y.marks(0, 255);
        y.marks(1, 255);
        y.put(1, 5);
        rightIs("1 of 101", y, 0, 1, 101);
        rightIs("100 of 101", y, 5, 100, 101);
    }

    private static void rightByItsGhost() {
        for (int strength = 0; strength <= 100; strength += 50) {
            PalaceOfRooms x = Palaces.withStrength(strength);
            x.put(1, 0);
            x.put(2, 1);
            rightIs("by a GHOST of " + strength, x, 0, strength == 50 ? 2 : 1, strength == 50 ? 3 : strength == 0 ? 1 : 2);
            rightIs("beside it the GHOST does not count", x, 1, 1, 1);
        }
        PalaceOfRooms y = Palaces.withStrength(95);
        y.marks(1, 15);
        y.marks(2, 15);
        y.put(1, 0);
        y.put(2, 1);
        y.days(60);
        y.days(40);
        rightIs("0 of its GHOST", y, 0, 0, 1);
        rightIs("0 of others with 0", y, 1, NOT, NOT);
        y.clear(0);
        y.put(3, 0);
        rightIs("its GHOST was taken off", y, 0, 1, 1);
        PalaceOfRooms z = Palaces.withStrength(1);
        z.put(1, 0);
        z.fall(0, 1);
        rightIs("a GHOST of 1", z, 0, 100, 101);
        z.days(1);
        rightIs("a GHOST of 0 is gone", z, 0, 1, 1);
    }

    private static void rightByTell() {
        for (int tell = 1; tell <= 8; tell++) {
            for (int marks = 0; marks <= 8; marks++) {
                PalaceOfRooms x = new PalaceOfRooms();
                x.marks(0, 255);
                x.marks(1, (1 << marks) - 1);
                x.put(0, 42);
                x.put(1, 47);
                x.set(0, tell);
                rightIs("TELL " + tell + ", LIKE in " + marks, x, 42, 1, marks >= tell ? 2 : 1);
            }
        }
    }

    private static void rightByFiveOthers() {
        PalaceOfRooms x = new PalaceOfRooms();
        for (int thing = 0; thing < 9; thing++) {
            x.marks(thing, 255);
        }
        x.put(8, 12);
        for (int thing = 0; thing < 6; thing++) {
            x.put(thing, 12 + thing);
            rightIs(thing + " others and a GHOST", x, 12, 1, thing + 2);
        }
        rightIs("five others, no GHOST", x, 17, 1, 6);
        x.put(6, 11);
        x.put(7, 18);
        rightIs("ROOMS beside it do not count", x, 12, 1, 7);
        rightIs("ROOMS beside it do not count", x, 17, 1, 6);
    }

    private static void rightInLowestTerms() {
        for (int strength = 1; strength <= 100; strength++) {
            PalaceOfRooms x = Palaces.withStrength(strength);
            x.marks(0, 15);
            x.marks(1, 15);
            x.put(1, 1);
            int above = strength;
            int below = strength + 100;
            for (int by = 100; by > 1; by--) {
                if (above % by == 0 && below % by == 0) {
                    above /= by;
                    below /= by;
                }
            }
            rightIs(strength + " of " + (strength + 100), x, 0, above, below);
        }
    }

    private static void causesByTell() {
        for (int tell = 1; tell <= 8; tell++) {
            for (int marks = 0; marks <= 8; marks++) {
                PalaceOfRooms x = new PalaceOfRooms();
                x.marks(0, 255);
                x.marks(23, (1 << marks) - 1);
                x.put(0, 47);
                x.set(0, tell);
                due.is("25: TELL " + tell + ", LIKE in " + marks, x.causes(47, 23), marks >= tell ? 1 : 0);
                x.put(23, 3);
                due.is("25: wherever it stands", x.causes(47, 23), marks >= tell ? 1 : 0);
            }
        }
    }

    private static void causesByGhost() {
        PalaceOfRooms x = Palaces.withStrength(1);
        x.put(1, 0);
        due.is("25: a GHOST of 1", x.causes(0, 0), 2);
        x.fall(0, 1);
        x.days(1);
        due.is("25: a GHOST of 0 is gone", x.causes(0, 0), 0);
        PalaceOfRooms y = new PalaceOfRooms();
        y.put(0, 0);
        y.put(1, 0);
        y.put(2, 0);
        due.is("25: the GHOST there", y.causes(0, 1), 2);
        due.is("25: one that was GHOST there", y.causes(0, 0), 0);
        y.put(3, 1);
        due.is("25: a GHOST elsewhere", y.causes(1, 1), 0);
        y.clear(0);
        due.is("25: a cleared CORNER", y.causes(0, 1), NOT);
    }

    /** Each two CORNERS of joined ROOMS, and of ROOMS that are not. */
    private static void causesByDoors() {
        for (int room = 0; room < 8; room++) {
            for (int number = 0; number < 6; number++) {
                PalaceOfRooms x = new PalaceOfRooms();
                x.door(3, 4);
                x.door(4, 5);
                x.put(0, 24 + 3);
                int corner = 6 * room + number;
                if (corner != 27) {
                    x.put(1, corner);
                    int causes = (room == 3 || room == 5) && number == 3 ? 4 : 0;
                    due.is("25: ROOM 4 by CORNER " + corner, x.causes(27, 1), causes);
                    due.is("25: CORNER " + corner + " by ROOM 4", x.causes(corner, 0), causes);
                }
            }
        }
        PalaceOfRooms first = new PalaceOfRooms();
        first.door(1, 0);
        first.put(0, 0);
        first.put(1, 6);
        due.is("25: the first CORNER of all", first.causes(6, 0), 4);
        due.is("25: the first CORNER of all", first.causes(0, 1), 4);
        PalaceOfRooms y = new PalaceOfRooms();
        y.door(0, 7);
        y.put(0, 5);
        y.put(1, 47);
        due.is("25: the first ROOM and the last", y.causes(5, 1), 4);
        due.is("25: the last ROOM and the first", y.causes(47, 0), 4);
        y.days(60);
        due.is("25: of STRENGTH 0 it still stands", y.causes(5, 1), 4);
        y.put(2, 47);
        due.is("25: a GHOST does not stand", y.causes(5, 1), 0);
    }

    private static void causesTogether() {
        for (int all = 0; all < 8; all++) {
            PalaceOfRooms x = new PalaceOfRooms();
            x.door(0, 1);
            x.marks(0, 15);
            x.marks(1, (all & 1) != 0 ? 15 : 7);
            if ((all & 2) != 0) {
                x.put(1, 0);
            }
            x.put(0, 0);
            if ((all & 4) != 0) {
                x.put(1, 6);
            }
            due.is("25: these together", x.causes(0, 1), all);
        }
    }

    private static void askedFromLeastToMost() {
        PalaceOfRooms x = rowOfRooms();
        for (int room = 0; room < 8; room++) {
            due.is("26: ON TOP nowhere", x.asked(0, room), NONE);
        }
        for (int number = 0; number < 6; number++) {
            x.put(0, 42 + number);
            for (int room = 0; room < 8; room++) {
                due.is("26: DOORS and number " + number, x.asked(0, room), 7 - room + number + 1);
            }
            x.clear(42 + number);
        }
        due.is("26: taken off", x.asked(0, 7), NONE);
        PalaceOfRooms y = new PalaceOfRooms();
        y.put(23, 0);
        due.is("26: the least", y.asked(23, 0), 1);
        due.is("26: no way", y.asked(23, 7), NONE);
        y.days(60);
        due.is("26: of STRENGTH 0", y.asked(23, 0), 1);
        y.put(22, 0);
        due.is("26: a GHOST", y.asked(23, 0), NONE);
    }

    private static void besideInEachCorner() {
        for (int corner = 0; corner < 48; corner++) {
            PalaceOfRooms x = new PalaceOfRooms();
            x.put(5, corner);
            if (corner > 0) {
                x.put(4, corner - 1);
            }
            if (corner < 47) {
                x.put(6, corner + 1);
            }
            due.is("27: ahead of CORNER " + corner, x.beside(5, 0), corner % 6 == 0 ? NONE : 4);
            due.is("27: behind CORNER " + corner, x.beside(5, 1), corner % 6 == 5 ? NONE : 6);
        }
        PalaceOfRooms y = new PalaceOfRooms();
        due.is("27: it stands nowhere", y.beside(0, 0), NONE);
        due.is("27: it stands nowhere", y.beside(0, 1), NONE);
        y.put(0, 3);
        due.is("27: alone", y.beside(0, 0), NONE);
        due.is("27: alone", y.beside(0, 1), NONE);
    }

    private static void besideOverEmptyCorners() {
        for (int from = 0; from < 6; from++) {
            for (int to = from + 1; to < 6; to++) {
                PalaceOfRooms x = new PalaceOfRooms();
                x.put(0, 42 + from);
                x.put(1, 42 + to);
                due.is("27: next behind", x.beside(0, 1), 1);
                due.is("27: next ahead", x.beside(1, 0), 0);
                due.is("27: none ahead", x.beside(0, 0), NONE);
                due.is("27: none behind", x.beside(1, 1), NONE);
            }
        }
        PalaceOfRooms y = new PalaceOfRooms();
        y.put(0, 0);
        y.put(1, 1);
        y.put(2, 5);
        y.days(60);
        due.is("27: of STRENGTH 0", y.beside(0, 1), 1);
        y.put(3, 1);
        due.is("27: what covers it", y.beside(0, 1), 3);
        due.is("27: a GHOST stands nowhere", y.beside(1, 1), NONE);
        y.clear(1);
        due.is("27: taken off", y.beside(0, 1), 2);
    }
}
