import java.util.Arrays;

/**
 * A palace of rooms: things kept in the corners of a house that is not there.
 * Every row is made once, in a constructor, and used again by each call.
 */
public final class PalaceOfRooms {

    public static final int NONE = -1, UNKNOWN = -2, OUTSIDE = -3, NOT = -4, FULL = -5;

    private static final int ROOMS = 8;
    private static final int ROOM_CORNERS = 6;
    private static final int CORNERS = ROOMS * ROOM_CORNERS;
    private static final int THINGS = 24;
    private static final int MOST_DOORS = 14;
    private static final int MOST_MARKS = 255;
    private static final int LAST_DAY = 400;
    private static final int MOST_DAYS = 60;
    private static final int WHOLE = 100;
    private static final int CLASSES = 11;
    private static final int MOST_FALL = 30;
    private static final int MOST_TELL = 8;
    private static final int MOST_BYTES = 160;
    private static final int MOST_LINES = 10;
    private static final int MOST_WRITTEN = 8;
    private static final int MOST_NUMBER = 8;
    private static final int MOST_EVERY = 99;
    private static final int MOST_LAID = 8;
    private static final int LEAST_CODED = 2;
    private static final int MOST_CODED = 6;
    private static final int MOST_PLANNED = 4;
    private static final int MOST_MINUTES = 99;
    private static final int NO_ROOM = ROOMS;
    private static final int PUPILS = 4;
    private static final int MOST_ANSWERS = 12;
    private static final int FIGURES = 10;
    private static final int MOST_ALIKE = 9;
    /** Above the HARM of any CODE: it has fewer twos of FIGURES, each with 8 MARKS at most. */
    private static final int BEYOND_HARM = MOST_CODED * MOST_CODED * 8 * MOST_ALIKE;
    /** Far above what any two STRENGTHS together can need. */
    private static final int MOST_DIVISIONS = 64;
    /** Five bits a THING: a long holds no more than these whole ones. */
    private static final int ROW_THINGS = 12;

    private final Ways ways;
    private final Pictures pictures;
    private final Corners corners;
    private final Text text;
    private final Planner planner;
    private final Speech speech;
    private final Codes codes;
    private final Pupil[] pupils;
    private final int[] told;
    private RuleBook rules;
    private RuleBook draft;

    public PalaceOfRooms() {
        ways = new Ways();
        pictures = new Pictures();
        corners = new Corners(pictures);
        text = new Text();
        planner = new Planner(corners, ways);
        speech = new Speech(pictures);
        codes = new Codes(pictures);
        pupils = new Pupil[PUPILS];
        for (int pupil = 0; pupil < PUPILS; pupil++) {
            pupils[pupil] = new Pupil();
        }
        told = new int[MOST_LAID];
        rules = new RuleBook();
        draft = new RuleBook();
    }

    // ---- the house

    public int door(int a, int b) {
        if (!isRoom(a) || !isRoom(b) || a == b) {
            return UNKNOWN;
        }
        if (ways.joined(a, b)) {
            return NOT;
        }
        if (ways.doors >= MOST_DOORS) {
            return FULL;
        }
        ways.join(a, b);
        return ways.doors;
    }

    public int away(int a, int b) {
        if (!isRoom(a) || !isRoom(b)) {
            return UNKNOWN;
        }
        return ways.between(a, b);
    }

    public int marks(int thing, int marks) {
        if (!isThing(thing)) {
            return UNKNOWN;
        }
        if (!within(marks, 0, MOST_MARKS)) {
            return OUTSIDE;
        }
        int before = pictures.marksOf[thing];
        pictures.marksOf[thing] = marks;
        return before;
    }

    public int like(int one, int two) {
        if (!isThing(one) || !isThing(two)) {
            return UNKNOWN;
        }
        return pictures.shared(one, two);
    }

    public int set(int what, int v) {
        int before;
        if (what == 0 && within(v, 1, MOST_TELL)) {
            before = corners.tell;
            corners.tell = v;
        } else if (what == 1 && within(v, 0, WHOLE)) {
            before = corners.gain;
            corners.gain = v;
        } else {
            before = OUTSIDE;
        }
        return before;
    }

    public int fall(int klass, int v) {
        if (!within(klass, 0, CLASSES - 1) || !within(v, 0, MOST_FALL)) {
            return OUTSIDE;
        }
        int before = corners.fallOf[klass];
        corners.fallOf[klass] = v;
        return before;
    }

    public int put(int thing, int corner) {
        if (!isThing(thing) || !isCorner(corner)) {
            return UNKNOWN;
        }
        if (corners.placeOf[thing] != NONE) {
            return NOT;
        }
        int covered = corners.top[corner];
        corners.cover(corner, thing);
        return covered;
    }

    public int clear(int corner) {
        if (!isCorner(corner)) {
            return UNKNOWN;
        }
        int taken = corners.top[corner];
        if (taken == NONE) {
            return NOT;
        }
        corners.takeOff(corner);
        return taken;
    }

    public int corner(int corner, int what) {
        if (!isCorner(corner)) {
            return UNKNOWN;
        }
        switch (what) {
            case 0:
                return corners.top[corner];
            case 1:
                return corners.top[corner] == NONE ? NONE : corners.strength[corner];
            case 2:
                return corners.ghost[corner];
            case 3:
                return corners.ghost[corner] == NONE ? NONE : corners.ghostStrength[corner];
            case 4:
                return corners.putOn[corner];
            default:
                return OUTSIDE;
        }
    }

    public int where(int thing) {
        return isThing(thing) ? corners.placeOf[thing] : UNKNOWN;
    }

    public int days(int n) {
        if (!within(n, 1, MOST_DAYS) || corners.day + n > LAST_DAY) {
            return OUTSIDE;
        }
        corners.passDays(n);
        return corners.day;
    }

    public int walk(int room) {
        return isRoom(room) ? corners.walkPast(room) : UNKNOWN;
    }

    // ---- rules, speeches

    public int write(long bytes, int n) {
        if (!within(n, 1, MOST_WRITTEN)) {
            return OUTSIDE;
        }
        if (text.length + n > MOST_BYTES) {
            return FULL;
        }
        text.append(bytes, n);
        return text.length;
    }

    public int erase() {
        int before = text.length;
        text.length = 0;
        return before;
    }

    public int fault() {
        return text.readInto(draft);
    }

    public int rules() {
        if (text.readInto(draft) != NONE) {
            return NOT;
        }
        RuleBook read = draft;
        draft = rules;
        rules = read;
        text.length = 0;
        return rules.lines;
    }

    public int bars(int thing, int corner) {
        if (!isThing(thing) || !isCorner(corner)) {
            return UNKNOWN;
        }
        int bars = 0;
        if (barredByRoom(corner)) {
            bars += 1;
        }
        if (barredByAgain(corner)) {
            bars += 2;
        }
        if (barredByApart(thing, corner)) {
            bars += 4;
        }
        return bars;
    }

    public int due() {
        int rooms = 0;
        for (int room = 0; room < ROOMS; room++) {
            if (isDue(room)) {
                rooms |= 1 << room;
            }
        }
        return rooms;
    }

    public int laid(long row, int n, int i) {
        int refusal = rowRefusal(row, n, i, 1, MOST_LAID);
        if (refusal != 0) {
            return refusal;
        }
        if (i >= n) {
            return NONE;
        }
        int all = speech.layOut(told, n);
        return i < 0 ? all : speech.order[i];
    }

    // ---- plans, slips

    public int cost(int room) {
        return isRoom(room) ? planner.costOf(room) : UNKNOWN;
    }

    public int plan(int n, int minutes, int what) {
        if (!within(n, 1, MOST_PLANNED) || !within(what, -1, n - 1) || !planner.takeMinutes(minutes, n)) {
            return OUTSIDE;
        }
        planner.findBest(n);
        return what < 0 ? planner.bestStrength : planner.best[what];
    }

    public int judge(int row, int n, int minutes) {
        if (!within(n, 1, MOST_PLANNED) || !planner.takeRooms(row, n) || !planner.takeMinutes(minutes, n)) {
            return OUTSIDE;
        }
        return planner.strengthBehindTrial(n);
    }

    public int right(int corner, int part) {
        if (!isCorner(corner)) {
            return UNKNOWN;
        }
        if (!within(part, 0, 1)) {
            return OUTSIDE;
        }
        if (corners.top[corner] == NONE) {
            return NOT;
        }
        int above = corners.strength[corner];
        int below = above + corners.strengthAgainst(corner);
        int divisor = commonDivisor(above, below);
        if (divisor <= 0) {
            return NOT;
        }
        return (part == 0 ? above : below) / divisor;
    }

    public int causes(int corner, int said) {
        if (!isCorner(corner) || !isThing(said)) {
            return UNKNOWN;
        }
        int stands = corners.top[corner];
        if (stands == NONE || stands == said) {
            return NOT;
        }
        int causes = 0;
        if (corners.muchAlike(stands, said)) {
            causes += 1;
        }
        if (corners.ghost[corner] == said) {
            causes += 2;
        }
        if (standsThroughDoor(corner, said)) {
            causes += 4;
        }
        return causes;
    }

    public int asked(int thing, int room) {
        if (!isThing(thing) || !isRoom(room)) {
            return UNKNOWN;
        }
        int place = corners.placeOf[thing];
        if (place == NONE) {
            return NONE;
        }
        int doors = ways.between(room, place / ROOM_CORNERS);
        return doors == NONE ? NONE : doors + place % ROOM_CORNERS + 1;
    }

    public int beside(int thing, int side) {
        if (!isThing(thing)) {
            return UNKNOWN;
        }
        if (!within(side, 0, 1)) {
            return OUTSIDE;
        }
        int place = corners.placeOf[thing];
        return place == NONE ? NONE : corners.nextOnTop(place, side == 1 ? 1 : -1);
    }

    // ---- pupils, figures

    public int answer(int pupil, int d, boolean right) {
        if (!within(pupil, 0, PUPILS - 1)) {
            return UNKNOWN;
        }
        if (!within(d, 1, MOST_DAYS)) {
            return OUTSIDE;
        }
        Pupil who = pupils[pupil];
        if (who.answers >= MOST_ANSWERS) {
            return FULL;
        }
        who.note(d, right);
        return who.answers;
    }

    public int pupil(int pupil, int what) {
        if (!within(pupil, 0, PUPILS - 1)) {
            return UNKNOWN;
        }
        Pupil who = pupils[pupil];
        switch (what) {
            case 0:
                return who.tablesThatMayBe();
            case 1:
                return who.nameOfLikeliest();
            case 2:
                return who.agreementOfLikeliest();
            case 3:
                return who.dayThatParts();
            default:
                return OUTSIDE;
        }
    }

    public int figures(int a, int b, int v) {
        if (!isFigure(a) || !isFigure(b) || a == b) {
            return UNKNOWN;
        }
        if (!within(v, 0, MOST_ALIKE)) {
            return OUTSIDE;
        }
        return codes.exchangeAlike(a, b, v);
    }

    public int code(long row, int n, int i) {
        int refusal = rowRefusal(row, n, i, LEAST_CODED, MOST_CODED);
        if (refusal != 0) {
            return refusal;
        }
        if (i >= n) {
            return NONE;
        }
        codes.findBest(told, n);
        return i < 0 ? codes.bestHarm : codes.best[i];
    }

    public int enough(int corners) {
        if (!within(corners, 0, CORNERS)) {
            return OUTSIDE;
        }
        int held = 0;
        int rooms = 0;
        for (int doors = 0; doors < ROOMS; doors++) {
            for (int room = 0; room < ROOMS; room++) {
                if (held < corners && ways.between(0, room) == doors) {
                    held += rules.cornersToUse(room);
                    rooms++;
                }
            }
        }
        return held < corners ? NONE : rooms;
    }

    public int count(int what) {
        switch (what) {
            case 0:
                return corners.day;
            case 1:
                return ways.doors;
            case 2:
                return filled(corners.top);
            case 3:
                return filled(corners.ghost);
            case 4:
                return corners.allStrength();
            case 5:
                return text.length;
            case 6:
                return rules.lines;
            default:
                return OUTSIDE;
        }
    }

    // ---- what the calls share

    private static boolean within(int v, int least, int most) {
        return v >= least && v <= most;
    }

    private static boolean isRoom(int room) {
        return within(room, 0, ROOMS - 1);
    }

    private static boolean isCorner(int corner) {
        return within(corner, 0, CORNERS - 1);
    }

    private static boolean isThing(int thing) {
        return within(thing, 0, THINGS - 1);
    }

    private static boolean isFigure(int figure) {
        return within(figure, 0, FIGURES - 1);
    }

    private static int commonDivisor(int one, int two) {
        int larger = Math.max(one, two);
        int smaller = Math.min(one, two);
        for (int step = 0; step < MOST_DIVISIONS && smaller > 0; step++) {
            int rest = larger % smaller;
            larger = smaller;
            smaller = rest;
        }
        return larger;
    }

    private static int filled(int[] row) {
        int filled = 0;
        for (int held : row) {
            if (held != NONE) {
                filled++;
            }
        }
        return filled;
    }

    private boolean barredByRoom(int corner) {
        int room = corner / ROOM_CORNERS;
        int most = rules.mostIn[room];
        return most != NONE && corners.standingIn(room) >= most;
    }

    private boolean barredByAgain(int corner) {
        int last = corners.putOn[corner];
        return rules.again != NONE && last != NONE && corners.day - last < rules.again;
    }

    private boolean barredByApart(int thing, int corner) {
        if (rules.apart == NONE) {
            return false;
        }
        int number = corner % ROOM_CORNERS;
        return number > 0 && tooLike(thing, corners.top[corner - 1])
                || number < ROOM_CORNERS - 1 && tooLike(thing, corners.top[corner + 1]);
    }

    private boolean tooLike(int thing, int neighbour) {
        return neighbour != NONE && pictures.shared(thing, neighbour) > rules.apart;
    }

    private boolean isDue(int room) {
        int every = rules.walkEvery[room];
        int last = corners.walkedOn[room];
        return every != NONE && (last == NONE || corners.day - last >= every);
    }

    private boolean standsThroughDoor(int corner, int thing) {
        int place = corners.placeOf[thing];
        return place != NONE
                && place % ROOM_CORNERS == corner % ROOM_CORNERS
                && ways.joined(place / ROOM_CORNERS, corner / ROOM_CORNERS);
    }

    /** 0, or why a row of n THINGS is refused; then told has its THINGS. */
    private int rowRefusal(long row, int n, int i, int least, int most) {
        // UNKNOWN goes ahead of OUTSIDE, so the THINGS are looked at even if n is too large.
        int read = Math.min(n, ROW_THINGS);
        for (int k = 0; k < read; k++) {
            if (!isThing(thingOf(row, k))) {
                return UNKNOWN;
            }
        }
        if (!within(n, least, most) || n > told.length || i < -1) {
            return OUTSIDE;
        }
        int seen = 0;
        for (int k = 0; k < n; k++) {
            int thing = thingOf(row, k);
            if ((seen >> thing & 1) == 1) {
                return OUTSIDE;
            }
            seen |= 1 << thing;
            told[k] = thing;
        }
        return 0;
    }

    private static int thingOf(long row, int k) {
        return (int) (row >> 5 * k & 31);
    }

    /** DOORS, and how many of them lie between any two ROOMS. */
    private static final class Ways {

        private final int[] fewest = new int[ROOMS * ROOMS];
        private int doors;

        Ways() {
            Arrays.fill(fewest, NONE);
            for (int room = 0; room < ROOMS; room++) {
                fewest[room * ROOMS + room] = 0;
            }
        }

        int between(int a, int b) {
            return fewest[a * ROOMS + b];
        }

        boolean joined(int a, int b) {
            return between(a, b) == 1;
        }

        void join(int a, int b) {
            doors++;
            // One DOOR more shortens a way only by leading through that DOOR once.
            for (int from = 0; from < ROOMS; from++) {
                for (int to = 0; to < ROOMS; to++) {
                    shorten(from, to, between(from, a), between(b, to));
                    shorten(from, to, between(from, b), between(a, to));
                }
            }
        }

        private void shorten(int from, int to, int before, int behind) {
            if (before == NONE || behind == NONE) {
                return;
            }
            int known = between(from, to);
            int through = before + 1 + behind;
            if (known == NONE || through < known) {
                fewest[from * ROOMS + to] = through;
            }
        }
    }

    /** MARKS of the THINGS. */
    private static final class Pictures {

        private final int[] marksOf = new int[THINGS];

        int shared(int one, int two) {
            return Integer.bitCount(marksOf[one] & marksOf[two]);
        }
    }

    /** What stands in the CORNERS, and how it fades and comes back. */
    private static final class Corners {

        private final Pictures pictures;
        private final int[] top = new int[CORNERS];
        private final int[] strength = new int[CORNERS];
        private final int[] ghost = new int[CORNERS];
        private final int[] ghostStrength = new int[CORNERS];
        private final int[] putOn = new int[CORNERS];
        private final int[] crowd = new int[CORNERS];
        private final int[] placeOf = new int[THINGS];
        private final int[] walkedOn = new int[ROOMS];
        private final int[] fallOf = new int[CLASSES];
        private int tell = 4;
        private int gain = 50;
        private int day;

        Corners(Pictures pictures) {
            this.pictures = pictures;
            Arrays.fill(top, NONE);
            Arrays.fill(ghost, NONE);
            Arrays.fill(putOn, NONE);
            Arrays.fill(placeOf, NONE);
            Arrays.fill(walkedOn, NONE);
            Arrays.fill(fallOf, 5);
        }

        boolean muchAlike(int one, int two) {
            return pictures.shared(one, two) >= tell;
        }

        void cover(int corner, int thing) {
            int covered = top[corner];
            if (covered != NONE) {
                placeOf[covered] = NONE;
                ghost[corner] = strength[corner] > 0 ? covered : NONE;
                ghostStrength[corner] = strength[corner];
            }
            top[corner] = thing;
            strength[corner] = WHOLE;
            putOn[corner] = day;
            placeOf[thing] = corner;
        }

        void takeOff(int corner) {
            int taken = top[corner];
            if (taken != NONE) {
                placeOf[taken] = NONE;
            }
            top[corner] = NONE;
            ghost[corner] = NONE;
        }

        void passDays(int n) {
            countCrowds();
            for (int corner = 0; corner < CORNERS; corner++) {
                if (top[corner] != NONE) {
                    strength[corner] = strengthBehind(corner, n, 0);
                }
                fadeGhost(corner, n);
            }
            day += n;
        }

        private void fadeGhost(int corner, int n) {
            for (int i = 0; i < n && ghost[corner] != NONE; i++) {
                ghostStrength[corner] = fallen(ghostStrength[corner], 0);
                if (ghostStrength[corner] == 0) {
                    ghost[corner] = NONE;
                }
            }
        }

        /** Of each CORNER, how many others by it make it fall faster: the same on all DAYS of one call. */
        void countCrowds() {
            for (int corner = 0; corner < CORNERS; corner++) {
                crowd[corner] = 0;
                int first = corner - corner % ROOM_CORNERS;
                for (int other = first; other < first + ROOM_CORNERS; other++) {
                    if (crowds(other, corner)) {
                        crowd[corner]++;
                    }
                }
            }
        }

        private boolean crowds(int other, int corner) {
            return other != corner && top[other] != NONE && top[corner] != NONE && muchAlike(top[other], top[corner]);
        }

        /** STRENGTH ON TOP n DAYS on, WALKED past ahead of each DAY whose bit is set; countCrowds() goes ahead. */
        int strengthBehind(int corner, int n, int walkedDays) {
            int left = strength[corner];
            for (int i = 0; i < n; i++) {
                if ((walkedDays >> i & 1) == 1) {
                    left += gainOf(left);
                }
                left = fallen(left, crowd[corner]);
            }
            return left;
        }

        private int fallen(int from, int more) {
            return Math.max(0, from - fallOf[from / 10] - more);
        }

        private int gainOf(int from) {
            return (WHOLE - from) * gain / 100;
        }

        int walkPast(int room) {
            int came = 0;
            int first = room * ROOM_CORNERS;
            for (int corner = first; corner < first + ROOM_CORNERS; corner++) {
                if (top[corner] != NONE) {
                    int more = gainOf(strength[corner]);
                    strength[corner] += more;
                    came += more;
                }
            }
            walkedOn[room] = day;
            return came;
        }

        int standingIn(int room) {
            int standing = 0;
            int first = room * ROOM_CORNERS;
            for (int corner = first; corner < first + ROOM_CORNERS; corner++) {
                if (top[corner] != NONE) {
                    standing++;
                }
            }
            return standing;
        }

        /** What may be told in place of the THING ON TOP: its GHOST, and those much alike in its ROOM. */
        int strengthAgainst(int corner) {
            int against = ghost[corner] == NONE ? 0 : ghostStrength[corner];
            int first = corner - corner % ROOM_CORNERS;
            for (int other = first; other < first + ROOM_CORNERS; other++) {
                if (crowds(other, corner)) {
                    against += strength[other];
                }
            }
            return against;
        }

        int nextOnTop(int place, int step) {
            int first = place - place % ROOM_CORNERS;
            int at = place + step;
            for (int i = 0; i < ROOM_CORNERS; i++) {
                if (at < first || at >= first + ROOM_CORNERS) {
                    return NONE;
                }
                if (top[at] != NONE) {
                    return top[at];
                }
                at += step;
            }
            return NONE;
        }

        int allStrength() {
            int all = 0;
            for (int corner = 0; corner < CORNERS; corner++) {
                if (top[corner] != NONE) {
                    all += strength[corner];
                }
            }
            return all;
        }
    }

    /** What the last LINE of each kind tells; NONE without one. */
    private static final class RuleBook {

        private final int[] mostIn = new int[ROOMS];
        private final int[] walkEvery = new int[ROOMS];
        private int again;
        private int apart;
        private int lines;

        RuleBook() {
            forget();
        }

        void forget() {
            Arrays.fill(mostIn, NONE);
            Arrays.fill(walkEvery, NONE);
            again = NONE;
            apart = NONE;
            lines = 0;
        }

        int cornersToUse(int room) {
            return mostIn[room] == NONE ? ROOM_CORNERS : Math.min(mostIn[room], ROOM_CORNERS);
        }
    }

    /** THE TEXT, read TOKEN by TOKEN; where reading stops, tokenStart is the place of the FAULT. */
    private static final class Text {

        private static final int BLANK = 32;
        private static final int SEMICOLON = 59;
        private static final int LETTER = 1;
        private static final int DIGIT = 2;
        private static final int OTHER = 3;

        private final int[] bytes = new int[MOST_BYTES];
        private int length;
        private int tokenStart;
        private int tokenEnd;

        void append(long more, int n) {
            for (int i = 0; i < n && length < MOST_BYTES; i++) {
                bytes[length] = (int) (more >> 8 * i & 255);
                length++;
            }
        }

        /** NONE, or the place of the FAULT; the book is whole only without one. */
        int readInto(RuleBook book) {
            book.forget();
            tokenEnd = 0;
            for (int line = 0; line < MOST_LINES; line++) {
                if (!readLine(book)) {
                    return tokenStart;
                }
                book.lines++;
                nextToken();
                if (tokenStart >= length) {
                    return NONE;
                }
                if (bytes[tokenStart] != SEMICOLON) {
                    return tokenStart;
                }
            }
            // A ; behind the tenth LINE would begin one too many.
            return tokenStart;
        }

        private boolean readLine(RuleBook book) {
            nextToken();
            if (tokenIs("room")) {
                return readRoomLine(book);
            }
            if (tokenIs("again")) {
                book.again = readNumber(1, MOST_EVERY);
                return book.again != NONE;
            }
            if (tokenIs("apart")) {
                book.apart = readNumber(0, MOST_NUMBER);
                return book.apart != NONE;
            }
            return tokenIs("walk") && readWalkLine(book);
        }

        private boolean readRoomLine(RuleBook book) {
            int room = readNumber(0, ROOMS - 1);
            if (room == NONE) {
                return false;
            }
            book.mostIn[room] = readNumber(0, MOST_NUMBER);
            return book.mostIn[room] != NONE;
        }

        private boolean readWalkLine(RuleBook book) {
            int room = readNumber(0, ROOMS - 1);
            if (room == NONE) {
                return false;
            }
            nextToken();
            if (!tokenIs("every")) {
                return false;
            }
            book.walkEvery[room] = readNumber(1, MOST_EVERY);
            return book.walkEvery[room] != NONE;
        }

        /** The next TOKEN as a number, or NONE if it is none within these bounds. */
        private int readNumber(int least, int most) {
            nextToken();
            int digits = tokenEnd - tokenStart;
            if (digits < 1 || digits > 2 || kindOf(bytes[tokenStart]) != DIGIT) {
                return NONE;
            }
            int number = 0;
            for (int at = tokenStart; at < tokenEnd; at++) {
                number = number * 10 + bytes[at] - '0';
            }
            return within(number, least, most) ? number : NONE;
        }

        private void nextToken() {
            int at = tokenEnd;
            while (at < length && bytes[at] == BLANK) {
                at++;
            }
            tokenStart = at;
            if (at < length) {
                int kind = kindOf(bytes[at]);
                at++;
                while (kind != OTHER && at < length && kindOf(bytes[at]) == kind) {
                    at++;
                }
            }
            tokenEnd = at;
        }

        private boolean tokenIs(String word) {
            if (tokenEnd - tokenStart != word.length()) {
                return false;
            }
            for (int i = 0; i < word.length(); i++) {
                if (bytes[tokenStart + i] != word.charAt(i)) {
                    return false;
                }
            }
            return true;
        }

        private static int kindOf(int sign) {
            if (within(sign, 'a', 'z')) {
                return LETTER;
            }
            return within(sign, '0', '9') ? DIGIT : OTHER;
        }
    }

    /** PLANS: ROOMS do not touch one another, so each is reckoned once for every set of DAYS on which it is WALKED. */
    private static final class Planner {

        private static final int DAY_SETS = 1 << MOST_PLANNED;

        private final Corners corners;
        private final Ways ways;
        private final int[] minutesOf = new int[MOST_PLANNED];
        private final int[] trial = new int[MOST_PLANNED];
        private final int[] best = new int[MOST_PLANNED];
        private final int[] walkedDays = new int[ROOMS];
        private final int[] costs = new int[ROOMS];
        private final int[] roomStrength = new int[ROOMS * DAY_SETS];
        private int bestStrength;

        Planner(Corners corners, Ways ways) {
            this.corners = corners;
            this.ways = ways;
        }

        int costOf(int room) {
            int doors = ways.between(0, room);
            return doors == NONE ? NONE : 2 * doors + corners.standingIn(room);
        }

        boolean takeMinutes(int minutes, int n) {
            for (int i = 0; i < n; i++) {
                minutesOf[i] = minutes >> 7 * i & 127;
                if (minutesOf[i] > MOST_MINUTES) {
                    return false;
                }
            }
            return true;
        }

        boolean takeRooms(int row, int n) {
            for (int i = 0; i < n; i++) {
                trial[i] = row >> 4 * i & 15;
                if (trial[i] > NO_ROOM) {
                    return false;
                }
            }
            return true;
        }

        int strengthBehindTrial(int n) {
            prepare();
            for (int i = 0; i < n; i++) {
                int room = trial[i];
                if (isRoom(room)) {
                    if (!walkable(room, i)) {
                        return NONE;
                    }
                    walkedDays[room] |= 1 << i;
                }
            }
            int all = 0;
            for (int room = 0; room < ROOMS; room++) {
                all += strengthOfRoom(room, n, walkedDays[room]);
            }
            return all;
        }

        void findBest(int n) {
            prepare();
            int unwalked = 0;
            for (int room = 0; room < ROOMS; room++) {
                for (int days = 0; days < 1 << n; days++) {
                    roomStrength[room * DAY_SETS + days] = strengthOfRoom(room, n, days);
                }
                unwalked += roomStrength[room * DAY_SETS];
            }
            bestStrength = NONE;
            seek(0, n, unwalked);
        }

        private void prepare() {
            corners.countCrowds();
            for (int room = 0; room < ROOMS; room++) {
                costs[room] = costOf(room);
                walkedDays[room] = 0;
            }
        }

        private boolean walkable(int room, int i) {
            return costs[room] != NONE && costs[room] <= minutesOf[i];
        }

        private int strengthOfRoom(int room, int n, int days) {
            int all = 0;
            int first = room * ROOM_CORNERS;
            for (int corner = first; corner < first + ROOM_CORNERS; corner++) {
                if (corners.top[corner] != NONE) {
                    all += corners.strengthBehind(corner, n, days);
                }
            }
            return all;
        }

        /** Goes through PLANS in their order, so that only a stronger one takes the place of the best. */
        private void seek(int i, int n, int all) {
            if (i >= n || i >= MOST_PLANNED) {
                keepIfStronger(all);
                return;
            }
            for (int room = 0; room < ROOMS; room++) {
                if (walkable(room, i)) {
                    int before = walkedDays[room];
                    int behind = before | 1 << i;
                    int change = roomStrength[room * DAY_SETS + behind] - roomStrength[room * DAY_SETS + before];
                    trial[i] = room;
                    walkedDays[room] = behind;
                    seek(i + 1, n, all + change);
                    walkedDays[room] = before;
                }
            }
            trial[i] = NO_ROOM;
            seek(i + 1, n, all);
        }

        private void keepIfStronger(int all) {
            if (all > bestStrength) {
                bestStrength = all;
                System.arraycopy(trial, 0, best, 0, MOST_PLANNED);
            }
        }
    }

    /** LAID OUT: the least that is still to come is kept for each set of THINGS that stand and the last of them. */
    private static final class Speech {

        private final Pictures pictures;
        private final int[] sorted = new int[MOST_LAID];
        private final int[] order = new int[MOST_LAID];
        private final int[] shared = new int[MOST_LAID * MOST_LAID];
        private final int[] toCome = new int[(1 << MOST_LAID) * MOST_LAID];

        Speech(Pictures pictures) {
            this.pictures = pictures;
        }

        /** All MARKS of the best order, which order then has. */
        int layOut(int[] told, int n) {
            sort(told, n);
            reckonShared(n);
            reckonToCome(n);
            int first = 0;
            for (int i = 1; i < n; i++) {
                if (toComeAt(1 << i, i) < toComeAt(1 << first, first)) {
                    first = i;
                }
            }
            int all = toComeAt(1 << first, first);
            follow(first, n);
            return all;
        }

        /** The first order by THINGS is then the first by places in the row. */
        private void sort(int[] told, int n) {
            for (int i = 0; i < n; i++) {
                int at = i;
                while (at > 0 && sorted[at - 1] > told[i]) {
                    sorted[at] = sorted[at - 1];
                    at--;
                }
                sorted[at] = told[i];
            }
        }

        private void reckonShared(int n) {
            for (int i = 0; i < n; i++) {
                for (int j = 0; j < n; j++) {
                    shared[i * MOST_LAID + j] = pictures.shared(sorted[i], sorted[j]);
                }
            }
        }

        private void reckonToCome(int n) {
            int whole = (1 << n) - 1;
            for (int set = whole; set > 0; set--) {
                for (int last = 0; last < n; last++) {
                    if ((set >> last & 1) == 1) {
                        int next = bestNext(set, last, n);
                        toCome[set * MOST_LAID + last] = next == NONE ? 0 : throughNext(set, last, next);
                    }
                }
            }
        }

        private void follow(int first, int n) {
            int last = first;
            int set = 1 << first;
            order[0] = sorted[first];
            for (int i = 1; i < n; i++) {
                int next = bestNext(set, last, n);
                if (next == NONE) {
                    return;
                }
                order[i] = sorted[next];
                set |= 1 << next;
                last = next;
            }
        }

        /** The first THING that does not stand yet and leaves least to come; NONE if all stand. */
        private int bestNext(int set, int last, int n) {
            int best = NONE;
            for (int next = 0; next < n; next++) {
                if ((set >> next & 1) == 0
                        && (best == NONE || throughNext(set, last, next) < throughNext(set, last, best))) {
                    best = next;
                }
            }
            return best;
        }

        private int throughNext(int set, int last, int next) {
            return shared[last * MOST_LAID + next] + toComeAt(set | 1 << next, next);
        }

        private int toComeAt(int set, int last) {
            return toCome[set * MOST_LAID + last];
        }
    }

    /** How alike FIGURES look, and CODES for them. */
    private static final class Codes {

        private final Pictures pictures;
        private final int[] alike = new int[FIGURES * FIGURES];
        private final int[] things = new int[MOST_LAID];
        private final int[] trial = new int[MOST_CODED];
        private final int[] best = new int[MOST_CODED];
        private int bestHarm;

        Codes(Pictures pictures) {
            this.pictures = pictures;
        }

        int exchangeAlike(int a, int b, int v) {
            int before = alike[a * FIGURES + b];
            alike[a * FIGURES + b] = v;
            alike[b * FIGURES + a] = v;
            return before;
        }

        void findBest(int[] told, int n) {
            System.arraycopy(told, 0, things, 0, MOST_LAID);
            bestHarm = BEYOND_HARM;
            seek(0, n, 0, 0);
        }

        /** HARM never falls with one more FIGURE, so what is not below the best is left at once. */
        private void seek(int figure, int n, int used, int harm) {
            if (harm >= bestHarm) {
                return;
            }
            if (figure >= n || figure >= MOST_CODED) {
                bestHarm = harm;
                System.arraycopy(trial, 0, best, 0, MOST_CODED);
                return;
            }
            for (int k = 0; k < n; k++) {
                if ((used >> k & 1) == 0) {
                    trial[figure] = things[k];
                    seek(figure + 1, n, used | 1 << k, harm + harmOf(figure));
                }
            }
        }

        private int harmOf(int figure) {
            int harm = 0;
            for (int other = 0; other < figure; other++) {
                harm += pictures.shared(trial[other], trial[figure]) * alike[other * FIGURES + figure];
            }
            return harm;
        }
    }

    /** A PUPIL: of each table, by how many ANSWERS it is so. */
    private static final class Pupil {

        private static final int LIMITS = 9;
        private static final int TABLES = 9 * LIMITS;

        private final int[] agreement = new int[TABLES];
        private int answers;

        void note(int d, boolean right) {
            for (int table = 0; table < TABLES; table++) {
                if (saysRight(table, d) == right) {
                    agreement[table]++;
                }
            }
            answers++;
        }

        private static int lossOf(int table) {
            return table / LIMITS + 1;
        }

        private static int limitOf(int table) {
            return (table % LIMITS + 1) * 10;
        }

        private static boolean saysRight(int table, int d) {
            return WHOLE - lossOf(table) * d >= limitOf(table);
        }

        private boolean mayBe(int table) {
            return agreement[table] == answers;
        }

        int tablesThatMayBe() {
            int tables = 0;
            for (int table = 0; table < TABLES; table++) {
                if (mayBe(table)) {
                    tables++;
                }
            }
            return tables;
        }

        private int likeliest() {
            int likeliest = 0;
            for (int table = 1; table < TABLES; table++) {
                if (agreement[table] > agreement[likeliest]) {
                    likeliest = table;
                }
            }
            return likeliest;
        }

        int nameOfLikeliest() {
            int table = likeliest();
            return 100 * lossOf(table) + limitOf(table);
        }

        int agreementOfLikeliest() {
            return agreement[likeliest()];
        }

        int dayThatParts() {
            if (tablesThatMayBe() == 0) {
                return NONE;
            }
            int parting = NONE;
            int least = TABLES + 1;
            for (int d = 1; d <= MOST_DAYS; d++) {
                int unlike = unlikeness(d);
                if (unlike < least) {
                    least = unlike;
                    parting = d;
                }
            }
            return parting;
        }

        private int unlikeness(int d) {
            int more = 0;
            for (int table = 0; table < TABLES; table++) {
                if (mayBe(table)) {
                    more += saysRight(table, d) ? 1 : -1;
                }
            }
            return Math.abs(more);
        }
    }
}
