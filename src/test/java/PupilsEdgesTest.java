/** Promises 28 to 33 at their edges: ANSWERS, tables, FIGURES, CODES, how many ROOMS are ENOUGH, counts. */
public final class PupilsEdgesTest {

    private static final int NONE = PalaceOfRooms.NONE, FULL = PalaceOfRooms.FULL;
    private static final Due due = new Due();

    public static void main(String[] args) {
        answersFromNoneToTwelve();
        answersOfOthers();
        rightAtTheLimit();
        tablesAfterOneAnswer();
        tableOfEachKind();
        likeliestOfSeveral();
        likeliestWithoutTable();
        partsOfAll();
        partsAfterOneAnswer();
        partsOfOneTable();
        partsOfTwoTables();
        partsOfNone();
        figuresOfEachTwo();
        codeOfTwo();
        codeOfSix();
        codeOfMostHarm();
        codeOfSeveral();
        codeOfFiguresBeyond();
        enoughOfEachNumber();
        enoughByTheLastRoomLine();
        enoughWithoutCorners();
        enoughInOrder();
        countsOfNone();
        countsOfTheMost();
        due.end();
    }

    private static void answersFromNoneToTwelve() {
        for (int pupil = 0; pupil < 4; pupil++) {
            PalaceOfRooms x = new PalaceOfRooms();
            for (int i = 1; i <= 12; i++) {
                due.is("29: by none yet", x.pupil(pupil, 2), i - 1);
                due.is("28: ANSWERS", x.answer(pupil, 1, true), i);
            }
            due.is("28: a thirteenth", x.answer(pupil, 60, false), FULL);
            due.is("29: it does not count", x.pupil(pupil, 2), 12);
            due.is("29: all tables MAY BE", x.pupil(pupil, 0), 81);
        }
    }

    private static void answersOfOthers() {
        PalaceOfRooms x = new PalaceOfRooms();
        for (int pupil = 0; pupil < 4; pupil++) {
            for (int i = 1; i <= 12; i++) {
                due.is("28: 12 of each", x.answer(pupil, 10 + pupil, false), i);
            }
        }
        // 100 less a times d below LIMIT, for d of 10 to 13.
        for (int pupil = 0; pupil < 4; pupil++) {
            due.is("29: tables of each", x.pupil(pupil, 0), 81 - tablesThatAreRight(10 + pupil));
            due.is("28: FULL of each", x.answer(pupil, 1, true), FULL);
        }
    }

    private static int tablesThatAreRight(int d) {
        int right = 0;
        for (int a = 1; a <= 9; a++) {
            for (int limit = 10; limit <= 90; limit += 10) {
                if (100 - a * d >= limit) {
                    right++;
                }
            }
        }
        return right;
    }

    /** 100 less 9 times 10 is 10: LIMIT 10 is still RIGHT on DAY 10, no table of 9 is on DAY 11. */
    private static void rightAtTheLimit() {
        PalaceOfRooms x = new PalaceOfRooms();
        due.is("28: right on DAY 10", x.answer(0, 10, true), 1);
        due.is("28: wrong on DAY 11", x.answer(0, 11, false), 2);
        // Each a of 1 to 9 with LIMIT 100 less 10 a.
        due.is("29: each a has one LIMIT", x.pupil(0, 0), 9);
        due.is("29: the least a", x.pupil(0, 1), 190);
        x.answer(1, 10, true);
        x.answer(1, 9, false);
        due.is("29: RIGHT later, not before", x.pupil(1, 0), 0);
        x.answer(2, 1, true);
        due.is("29: on DAY 1 all are RIGHT", x.pupil(2, 0), 81);
        x.answer(3, 1, false);
        due.is("29: on DAY 1 none is not", x.pupil(3, 0), 0);
    }

    private static void tablesAfterOneAnswer() {
        for (int d = 1; d <= 60; d++) {
            PalaceOfRooms x = new PalaceOfRooms();
            x.answer(0, d, true);
            x.answer(3, d, false);
            due.is("29: RIGHT on DAY " + d, x.pupil(0, 0), tablesThatAreRight(d));
            due.is("29: not RIGHT on DAY " + d, x.pupil(3, 0), 81 - tablesThatAreRight(d));
        }
        PalaceOfRooms y = new PalaceOfRooms();
        y.answer(0, 60, true);
        due.is("29: on DAY 60 a 1 with LIMIT 10 to 40", y.pupil(0, 0), 4);
    }

    /** A PUPIL who answers by one table, on the last DAY that it is RIGHT and on the first that it is not. */
    private static void tableOfEachKind() {
        for (int a = 1; a <= 9; a++) {
            for (int limit = 10; limit <= 90; limit += 10) {
                int last = (100 - limit) / a;
                PalaceOfRooms x = new PalaceOfRooms();
                x.answer(1, Math.min(60, last), true);
                if (last < 60) {
                    x.answer(1, last + 1, false);
                }
                due.is("29: the table agrees", x.pupil(1, 2), last < 60 ? 2 : 1);
                due.is("29: it MAY BE", x.pupil(1, 0) > 0 ? 1 : 0, 1);
                int least = leastWithLast(last);
                due.is("29: LIKELIEST of a " + a + ", LIMIT " + limit, x.pupil(1, 1), least);
            }
        }
    }

    /** 100 a and LIMIT of the first table that is RIGHT up to this DAY and no longer, as far as 60 DAYS show it. */
    private static int leastWithLast(int last) {
        for (int a = 1; a <= 9; a++) {
            for (int limit = 10; limit <= 90; limit += 10) {
                if (Math.min(60, (100 - limit) / a) == Math.min(60, last)) {
                    return 100 * a + limit;
                }
            }
        }
        return 0;
    }

    private static void likeliestOfSeveral() {
        PalaceOfRooms x = new PalaceOfRooms();
        due.is("29: without ANSWERS the least of all", x.pupil(0, 1), 110);
        due.is("29: by none", x.pupil(0, 2), 0);
        due.is("29: all MAY BE", x.pupil(0, 0), 81);
        x.answer(0, 2, false);
        // a 6 with LIMIT 90: 88 is below; a 5 with LIMIT 90: 90 is not.
        due.is("29: the least a, then LIMIT", x.pupil(0, 1), 690);
        x.answer(1, 10, false);
        // a 2 with LIMIT 90, a 1 with none: 90 is not below 90.
        due.is("29: the least a, then LIMIT", x.pupil(1, 1), 290);
        x.answer(2, 11, false);
        due.is("29: the least a, then LIMIT", x.pupil(2, 1), 190);
        x.answer(3, 60, false);
        due.is("29: the least LIMIT of a 1", x.pupil(3, 1), 150);
    }

    private static void likeliestWithoutTable() {
        PalaceOfRooms x = new PalaceOfRooms();
        for (int i = 0; i < 6; i++) {
            x.answer(0, 1, false);
            x.answer(0, 60, true);
        }
        due.is("29: none MAY BE", x.pupil(0, 0), 0);
        due.is("29: the six of DAY 60", x.pupil(0, 2), 6);
        due.is("29: the six of DAY 60", x.pupil(0, 1), 110);
        for (int i = 0; i < 12; i++) {
            x.answer(1, 1, false);
        }
        due.is("29: no table agrees with any", x.pupil(1, 2), 0);
        due.is("29: of all the least", x.pupil(1, 1), 110);
    }

    private static void partsOfAll() {
        PalaceOfRooms x = new PalaceOfRooms();
        for (int pupil = 0; pupil < 4; pupil++) {
            due.is("29: without ANSWERS", x.pupil(pupil, 3), 9);
        }
    }

    private static void partsAfterOneAnswer() {
        for (int d = 1; d <= 60; d++) {
            PalaceOfRooms x = new PalaceOfRooms();
            x.answer(0, d, true);
            x.answer(3, d, false);
            due.is("29: parts most, RIGHT on DAY " + d, x.pupil(0, 3), leastUnlike(d, true));
            due.is("29: parts most, not RIGHT on DAY " + d, x.pupil(3, 3), leastUnlike(d, false));
        }
    }

    private static int leastUnlike(int told, boolean right) {
        int best = NONE;
        int least = 0;
        for (int d = 60; d >= 1; d--) {
            int mayBe = 0;
            int unlike = 0;
            for (int a = 1; a <= 9; a++) {
                for (int limit = 10; limit <= 90; limit += 10) {
                    if (100 - a * told >= limit == right) {
                        mayBe++;
                        unlike += 100 - a * d >= limit ? 1 : -1;
                    }
                }
            }
            if (mayBe > 0 && (best == NONE || Math.abs(unlike) <= least)) {
                least = Math.abs(unlike);
                best = d;
            }
        }
        return best;
    }

    private static void partsOfOneTable() {
        PalaceOfRooms x = new PalaceOfRooms();
        x.answer(0, 50, true);
        x.answer(0, 51, false);
        due.is("29: one table", x.pupil(0, 0), 1);
        due.is("29: it is on one side on each DAY: the least", x.pupil(0, 3), 1);
    }

    /** a 1 with LIMIT 40 and 50 are unlike from DAY 51 on; the ANSWERS leave no other. */
    private static void partsOfTwoTables() {
        PalaceOfRooms x = new PalaceOfRooms();
        x.answer(0, 46, true);
        // a 1 with LIMIT 10 to 50; a 2 at most to DAY 45.
        due.is("29: five tables", x.pupil(0, 0), 5);
        due.is("29: 4 and 1 from DAY 51", x.pupil(0, 3), 51);
        x.answer(1, 41, true);
        x.answer(1, 51, false);
        // a 1 with LIMIT 50, a 2 with LIMIT 10 to DAY 45.
        due.is("29: two tables", x.pupil(1, 0), 2);
        due.is("29: the least DAY that parts them", x.pupil(1, 3), 46);
        x.answer(1, 46, true);
        due.is("29: parted", x.pupil(1, 1), 150);
        due.is("29: one table", x.pupil(1, 0), 1);
    }

    private static void partsOfNone() {
        PalaceOfRooms x = new PalaceOfRooms();
        x.answer(3, 5, false);
        due.isNot("29: some MAY BE", x.pupil(3, 3), NONE);
        x.answer(3, 5, true);
        due.is("29: none MAY BE", x.pupil(3, 0), 0);
        due.is("29: none parts them", x.pupil(3, 3), NONE);
        due.is("29: of another PUPIL", x.pupil(2, 3), 9);
    }

    private static void figuresOfEachTwo() {
        PalaceOfRooms x = new PalaceOfRooms();
        for (int a = 0; a < 10; a++) {
            for (int b = a + 1; b < 10; b++) {
                due.is("30: 0 at first", x.figures(a, b, (a + b) % 10), 0);
            }
        }
        for (int a = 0; a < 10; a++) {
            for (int b = a + 1; b < 10; b++) {
                due.is("30: told the other way", x.figures(b, a, 9), (a + b) % 10);
                due.is("30: that which it was", x.figures(a, b, 0), 9);
            }
        }
    }

    private static void codeOfTwo() {
        PalaceOfRooms x = new PalaceOfRooms();
        x.marks(22, 255);
        x.marks(23, 255);
        due.is("31: FIGURES that are not alike", x.code(Due.row(23, 22), 2, -1), 0);
        due.is("31: the first by the order told", x.code(Due.row(23, 22), 2, 0), 23);
        due.is("31: the first by the order told", x.code(Due.row(23, 22), 2, 1), 22);
        due.is("31: there are not so many", x.code(Due.row(23, 22), 2, 2), NONE);
        x.figures(0, 1, 9);
        due.is("31: HARM of two", x.code(Due.row(23, 22), 2, -1), 72);
        x.figures(0, 1, 1);
        due.is("31: HARM of two", x.code(Due.row(23, 22), 2, -1), 8);
        x.marks(23, 0);
        due.is("31: THINGS that are not LIKE", x.code(Due.row(23, 22), 2, -1), 0);
    }

    /** Only FIGURES 4 and 5 look alike, only THINGS 10 and 15 are LIKE: no best CODE gives those to these. */
    private static void codeOfSix() {
        PalaceOfRooms x = new PalaceOfRooms();
        x.marks(10, 1);
        x.marks(15, 1);
        x.figures(4, 5, 1);
        long row = Due.row(11, 12, 13, 14, 10, 15);
        int[] first = {11, 12, 13, 10, 14, 15};
        due.is("31: HARM", x.code(row, 6, -1), 0);
        for (int i = 0; i < 6; i++) {
            due.is("31: FIGURE " + i, x.code(row, 6, i), first[i]);
        }
        due.is("31: there are not so many", x.code(row, 6, 6), NONE);
        due.is("31: there are not so many", x.code(row, 6, 9), NONE);
    }

    private static void codeOfMostHarm() {
        PalaceOfRooms x = new PalaceOfRooms();
        for (int a = 0; a < 6; a++) {
            x.marks(a, 255);
            for (int b = 0; b < a; b++) {
                x.figures(a, b, 9);
            }
        }
        // From long to short, so that nothing of a longer row may be left.
        for (int n = 6; n >= 2; n--) {
            due.is("31: all alike in all", x.code(Due.row(5, 4, 3, 2, 1, 0), n, -1), n * (n - 1) / 2 * 72);
            for (int i = 0; i < n; i++) {
                due.is("31: the first by the order told", x.code(Due.row(5, 4, 3, 2, 1, 0), n, i), 5 - i);
            }
        }
    }

    private static void codeOfSeveral() {
        PalaceOfRooms x = new PalaceOfRooms();
        x.marks(0, 0b11);
        x.marks(1, 0b01);
        x.marks(2, 0b10);
        x.figures(0, 1, 5);
        // 1 and 2 are not LIKE: they are FIGURES 0 and 1, in the order told.
        int[][] rows = {{0, 1, 2}, {0, 2, 1}, {1, 0, 2}, {2, 1, 0}};
        int[][] codes = {{1, 2, 0}, {2, 1, 0}, {1, 2, 0}, {2, 1, 0}};
        for (int k = 0; k < rows.length; k++) {
            due.is("31: HARM", x.code(Due.row(rows[k]), 3, -1), 0);
            for (int i = 0; i < 3; i++) {
                due.is("31: of several the first", x.code(Due.row(rows[k]), 3, i), codes[k][i]);
            }
        }
    }

    private static void codeOfFiguresBeyond() {
        PalaceOfRooms x = new PalaceOfRooms();
        for (int thing = 0; thing < 6; thing++) {
            x.marks(thing, 255);
        }
        for (int n = 2; n <= 6; n++) {
            x.figures(n, 0, 9);
            due.is("31: FIGURE " + n + " has no THING", x.code(Due.row(0, 1, 2, 3, 4, 5), n, -1), 0);
            due.is("31: it has one with one more", x.code(Due.row(0, 1, 2, 3, 4, 5), Math.min(6, n + 1), -1), n < 6 ? 72 : 0);
            x.figures(n, 0, 0);
        }
        x.figures(8, 9, 9);
        due.is("31: FIGURES 8 and 9 have none", x.code(Due.row(0, 1, 2, 3, 4, 5), 6, -1), 0);
    }

    private static void enoughOfEachNumber() {
        PalaceOfRooms x = new PalaceOfRooms();
        for (int rooms = 1; rooms <= 8; rooms++) {
            for (int corners = 0; corners <= 48; corners++) {
                int needed = (corners + 5) / 6;
                due.is("32: " + corners + " in " + rooms, x.enough(corners), needed > rooms ? NONE : needed);
            }
            if (rooms < 8) {
                x.door(rooms - 1, rooms);
            }
        }
    }

    private static void enoughByTheLastRoomLine() {
        for (int told = 0; told <= 8; told++) {
            PalaceOfRooms x = Palaces.ruled("room 0 3;room 0 " + told);
            x.door(0, 7);
            int held = Math.min(6, told);
            for (int corners = 1; corners <= 13; corners++) {
                int needed = corners <= held ? 1 : corners <= held + 6 ? 2 : NONE;
                due.is("32: room 0 " + told + ", " + corners + " told", x.enough(corners), needed);
            }
            due.is("32: none told", x.enough(0), 0);
        }
    }

    private static void enoughWithoutCorners() {
        PalaceOfRooms x = Palaces.ruled("room 0 0;room 1 0");
        due.is("32: none told, none needed", x.enough(0), 0);
        due.is("32: one told, none there", x.enough(1), NONE);
        x.door(0, 1);
        due.is("32: one told, none there", x.enough(1), NONE);
        due.is("32: none told, none needed", x.enough(0), 0);
        x.door(0, 2);
        due.is("32: the third has six", x.enough(1), 3);
        due.is("32: the third has six", x.enough(6), 3);
        due.is("32: no more", x.enough(7), NONE);
    }

    /** By AWAY: 0; 5 and 7; 1 and 6; 2. Each holds a number of its own, so that the order shows. */
    private static void enoughInOrder() {
        PalaceOfRooms x = Palaces.ruled("room 0 1;room 5 2;room 7 3;room 1 4;room 6 5;room 2 6");
        x.door(7, 6);
        x.door(1, 5);
        x.door(0, 7);
        x.door(0, 5);
        x.door(6, 2);
        x.door(3, 4);
        int[] upTo = {0, 1, 3, 6, 10, 15, 21};
        for (int rooms = 1; rooms <= 6; rooms++) {
            due.is("32: up to", x.enough(upTo[rooms]), rooms);
            due.is("32: one more", x.enough(upTo[rooms] + 1), rooms < 6 ? rooms + 1 : NONE);
        }
    }

    private static void countsOfNone() {
        PalaceOfRooms x = new PalaceOfRooms();
        for (int what = 0; what <= 6; what++) {
            due.is("33: none", x.count(what), 0);
        }
        x.put(0, 0);
        x.days(60);
        due.is("33: ON TOP of 0", x.count(2), 1);
        due.is("33: STRENGTH 0", x.count(4), 0);
        x.put(1, 0);
        due.is("33: no GHOST of 0", x.count(3), 0);
        x.clear(0);
        due.is("33: none ON TOP", x.count(2), 0);
        due.is("33: no STRENGTH", x.count(4), 0);
    }

    private static void countsOfTheMost() {
        PalaceOfRooms x = Palaces.ruled("again 1;".repeat(9) + "again 1");
        for (int i = 0; i < 6; i++) {
            x.days(60);
        }
        x.days(40);
        Due.write(x, " ".repeat(160));
        for (int thing = 0; thing < 24; thing++) {
            x.put(thing, 2 * thing);
            due.is("33: STRENGTH of all ON TOP", x.count(4), 100 * (thing + 1));
        }
        due.is("33: THE DAY", x.count(0), 400);
        due.is("33: DOORS", Palaces.FULL_HOUSE.make().count(1), 14);
        due.is("33: THINGS ON TOP", x.count(2), 24);
        due.is("33: bytes", x.count(5), 160);
        due.is("33: LINES", x.count(6), 10);
        mostGhosts();
    }

    /** One THING covers each other one, which then covers it in its turn. */
    private static void mostGhosts() {
        PalaceOfRooms x = new PalaceOfRooms();
        for (int thing = 0; thing < 23; thing++) {
            x.put(thing, thing);
            x.put(23, thing);
            due.is("33: GHOSTS", x.count(3), thing + 1);
            x.put(thing, thing);
            due.is("33: GHOSTS", x.count(3), thing + 1);
        }
        due.is("33: THINGS ON TOP", x.count(2), 23);
        due.is("33: STRENGTH of all ON TOP", x.count(4), 2300);
        x.put(23, 23);
        due.is("33: one without a GHOST", x.count(3), 23);
        x.clear(0);
        due.is("33: its GHOST went too", x.count(3), 22);
    }
}
