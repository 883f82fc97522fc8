import java.util.ArrayList;
import java.util.Arrays;
import java.util.HashSet;
import java.util.List;
import java.util.Set;
import java.util.TreeSet;
import java.util.regex.Matcher;
import java.util.regex.Pattern;

/** The document once more, as slow and as plain as can be: every search goes through all there is. */
final class PlainPalace {

    private static final int NONE = -1, UNKNOWN = -2, OUTSIDE = -3, NOT = -4, FULL = -5;

    private static final class Held {
        final int thing;
        int strength;

        Held(int thing, int strength) {
            this.thing = thing;
            this.strength = strength;
        }

        Held copy() {
            return new Held(thing, strength);
        }
    }

    private final Held[] top = new Held[48];
    private final Held[] ghost = new Held[48];
    private final int[] putOn = new int[48];
    private final int[] walkedOn = new int[8];
    private final int[] marks = new int[24];
    private final int[] fall = new int[11];
    private final Set<Integer> doors = new TreeSet<>();
    private final int[][] alike = new int[10][10];
    private final List<List<int[]>> answers = new ArrayList<>();
    private StringBuilder text = new StringBuilder();
    private List<String[]> rules = new ArrayList<>();
    private int tell = 4;
    private int gain = 50;
    private int day;

    PlainPalace() {
        Arrays.fill(putOn, NONE);
        Arrays.fill(walkedOn, NONE);
        Arrays.fill(fall, 5);
        for (int pupil = 0; pupil < 4; pupil++) {
            answers.add(new ArrayList<>());
        }
    }

    private PlainPalace copy() {
        PlainPalace c = new PlainPalace();
        for (int i = 0; i < 48; i++) {
            c.top[i] = top[i] == null ? null : top[i].copy();
            c.ghost[i] = ghost[i] == null ? null : ghost[i].copy();
        }
        System.arraycopy(marks, 0, c.marks, 0, 24);
        System.arraycopy(fall, 0, c.fall, 0, 11);
        c.doors.addAll(doors);
        c.tell = tell;
        c.gain = gain;
        return c;
    }

    private static boolean in(int v, int least, int most) {
        return least <= v && v <= most;
    }

    private static boolean room(int r) {
        return in(r, 0, 7);
    }

    private static boolean place(int c) {
        return in(c, 0, 47);
    }

    private static boolean thing(int t) {
        return in(t, 0, 23);
    }

    private boolean isDoor(int a, int b) {
        return doors.contains(Math.min(a, b) * 8 + Math.max(a, b));
    }

    int door(int a, int b) {
        if (!room(a) || !room(b) || a == b) return UNKNOWN;
        if (isDoor(a, b)) return NOT;
        if (doors.size() == 14) return FULL;
        doors.add(Math.min(a, b) * 8 + Math.max(a, b));
        return doors.size();
    }

    int away(int a, int b) {
        if (!room(a) || !room(b)) return UNKNOWN;
        Set<Integer> reached = new HashSet<>();
        reached.add(a);
        for (int steps = 0; steps < 8; steps++) {
            if (reached.contains(b)) return steps;
            Set<Integer> more = new HashSet<>(reached);
            for (int from : reached) {
                for (int to = 0; to < 8; to++) {
                    if (isDoor(from, to)) more.add(to);
                }
            }
            reached = more;
        }
        return NONE;
    }

    int marks(int t, int m) {
        if (!thing(t)) return UNKNOWN;
        if (!in(m, 0, 255)) return OUTSIDE;
        int was = marks[t];
        marks[t] = m;
        return was;
    }

    int like(int one, int two) {
        if (!thing(one) || !thing(two)) return UNKNOWN;
        int both = 0;
        for (int bit = 1; bit < 256; bit *= 2) {
            if ((marks[one] & bit) != 0 && (marks[two] & bit) != 0) both++;
        }
        return both;
    }

    int set(int what, int v) {
        int was = what == 0 ? tell : gain;
        if (what == 0) {
            if (!in(v, 1, 8)) return OUTSIDE;
            tell = v;
            return was;
        }
        if (what != 1 || !in(v, 0, 100)) return OUTSIDE;
        gain = v;
        return was;
    }

    int fall(int klass, int v) {
        if (!in(klass, 0, 10) || !in(v, 0, 30)) return OUTSIDE;
        int was = fall[klass];
        fall[klass] = v;
        return was;
    }

    int put(int t, int c) {
        if (!thing(t) || !place(c)) return UNKNOWN;
        if (where(t) != NONE) return NOT;
        Held was = top[c];
        ghost[c] = was == null || was.strength == 0 ? null : was;
        top[c] = new Held(t, 100);
        putOn[c] = day;
        return was == null ? NONE : was.thing;
    }

    int clear(int c) {
        if (!place(c)) return UNKNOWN;
        if (top[c] == null) return NOT;
        int was = top[c].thing;
        top[c] = null;
        ghost[c] = null;
        return was;
    }

    int corner(int c, int what) {
        if (!place(c)) return UNKNOWN;
        if (!in(what, 0, 4)) return OUTSIDE;
        if (what == 4) return putOn[c];
        Held of = what < 2 ? top[c] : ghost[c];
        return of == null ? NONE : what % 2 == 0 ? of.thing : of.strength;
    }

    int where(int t) {
        if (!thing(t)) return UNKNOWN;
        for (int c = 0; c < 48; c++) {
            if (top[c] != null && top[c].thing == t) return c;
        }
        return NONE;
    }

    private boolean crowds(int other, int c) {
        return other != c && other / 6 == c / 6 && top[other] != null && like(top[other].thing, top[c].thing) >= tell;
    }

    private void oneDay() {
        for (int c = 0; c < 48; c++) {
            if (top[c] != null) {
                int by = fall[top[c].strength / 10];
                for (int other = 0; other < 48; other++) {
                    if (crowds(other, c)) by++;
                }
                top[c].strength = Math.max(0, top[c].strength - by);
            }
            if (ghost[c] != null) {
                ghost[c].strength = Math.max(0, ghost[c].strength - fall[ghost[c].strength / 10]);
                if (ghost[c].strength == 0) ghost[c] = null;
            }
        }
        day++;
    }

    int days(int n) {
        if (!in(n, 1, 60) || day + n > 400) return OUTSIDE;
        for (int i = 0; i < n; i++) oneDay();
        return day;
    }

    int walk(int r) {
        if (!room(r)) return UNKNOWN;
        int came = 0;
        for (int c = 6 * r; c < 6 * r + 6; c++) {
            if (top[c] != null) {
                int more = (100 - top[c].strength) * gain / 100;
                top[c].strength += more;
                came += more;
            }
        }
        walkedOn[r] = day;
        return came;
    }

    int write(long bytes, int n) {
        if (!in(n, 1, 8)) return OUTSIDE;
        if (text.length() + n > 160) return FULL;
        for (int i = 0; i < n; i++) text.append((char) (bytes >> 8 * i & 255));
        return text.length();
    }

    int erase() {
        int was = text.length();
        text = new StringBuilder();
        return was;
    }

    /** Reads THE TEXT into lines: NONE, or the place of the FAULT. */
    private int reads(List<String[]> lines) {
        Matcher tokens = Pattern.compile("[a-z]+|[0-9]+|[^ ]", Pattern.DOTALL).matcher(text);
        List<String> line = new ArrayList<>();
        while (tokens.find()) {
            String token = tokens.group();
            if (token.equals(";") && whole(line) && lines.size() < 9) {
                lines.add(line.toArray(new String[0]));
                line = new ArrayList<>();
            } else {
                line.add(token);
                if (!begins(line)) return tokens.start();
            }
        }
        if (!whole(line)) return text.length();
        lines.add(line.toArray(new String[0]));
        return NONE;
    }

    private static final String R = "0?[0-7]", N = "0?[0-8]", D = "[1-9][0-9]?|0[1-9]";
    private static final String[][] KINDS = {{"room", R, N}, {"again", D}, {"apart", N}, {"walk", R, "every", D}};

    private static boolean begins(List<String> line) {
        for (String[] kind : KINDS) {
            boolean fits = line.size() <= kind.length;
            for (int i = 0; fits && i < line.size(); i++) fits = line.get(i).matches(kind[i]);
            if (fits) return true;
        }
        return false;
    }

    private static boolean whole(List<String> line) {
        for (String[] kind : KINDS) {
            if (line.size() == kind.length && line.get(0).equals(kind[0])) return begins(line);
        }
        return false;
    }

    int fault() {
        return reads(new ArrayList<>());
    }

    int rules() {
        List<String[]> lines = new ArrayList<>();
        if (reads(lines) != NONE) return NOT;
        rules = lines;
        erase();
        return lines.size();
    }

    /** What the last LINE of a kind tells, of a ROOM if one is asked for; NONE. */
    private int last(String kind, int ofRoom) {
        int tells = NONE;
        for (String[] line : rules) {
            boolean fits = line[0].equals(kind) && (ofRoom == NONE || Integer.parseInt(line[1]) == ofRoom);
            if (fits) tells = Integer.parseInt(line[line.length - 1]);
        }
        return tells;
    }

    private int standing(int r) {
        int standing = 0;
        for (int c = 6 * r; c < 6 * r + 6; c++) {
            if (top[c] != null) standing++;
        }
        return standing;
    }

    int bars(int t, int c) {
        if (!thing(t) || !place(c)) return UNKNOWN;
        int bars = 0;
        int most = last("room", c / 6);
        if (most != NONE && standing(c / 6) >= most) bars |= 1;
        int again = last("again", NONE);
        if (again != NONE && putOn[c] != NONE && day - putOn[c] < again) bars |= 2;
        int apart = last("apart", NONE);
        for (int other = c - 1; apart != NONE && other <= c + 1; other += 2) {
            boolean neighbour = place(other) && other / 6 == c / 6 && top[other] != null;
            if (neighbour && like(t, top[other].thing) > apart) bars |= 4;
        }
        return bars;
    }

    int due() {
        int rooms = 0;
        for (int r = 0; r < 8; r++) {
            int every = last("walk", r);
            if (every != NONE && (walkedOn[r] == NONE || day - walkedOn[r] >= every)) rooms |= 1 << r;
        }
        return rooms;
    }

    private static int[] things(long row, int n) {
        int[] things = new int[Math.max(0, Math.min(n, 12))];
        for (int k = 0; k < things.length; k++) things[k] = (int) (row >> 5 * k & 31);
        return things;
    }

    private static int refusal(int[] things, int n, int i, int least, int most) {
        for (int t : things) {
            if (!thing(t)) return UNKNOWN;
        }
        long unlike = Arrays.stream(things).distinct().count();
        return !in(n, least, most) || i < -1 || unlike != n ? OUTSIDE : 0;
    }

    /** All orders of a row, by its places. */
    private static List<int[]> orders(int[] row) {
        List<int[]> all = new ArrayList<>();
        extend(row, new int[row.length], 0, 0, all);
        return all;
    }

    private static void extend(int[] row, int[] order, int at, int used, List<int[]> all) {
        if (at == row.length) {
            all.add(order.clone());
            return;
        }
        for (int k = 0; k < row.length; k++) {
            if ((used & 1 << k) == 0) {
                order[at] = row[k];
                extend(row, order, at + 1, used | 1 << k, all);
            }
        }
    }

    int laid(long row, int n, int i) {
        int[] things = things(row, n);
        int refusal = refusal(things, n, i, 1, 8);
        if (refusal != 0) return refusal;
        if (i >= n) return NONE;
        Arrays.sort(things);
        int least = Integer.MAX_VALUE;
        int[] best = things;
        for (int[] order : orders(things)) {
            int all = 0;
            for (int k = 1; k < n; k++) all += like(order[k - 1], order[k]);
            if (all < least) {
                least = all;
                best = order;
            }
        }
        return i == -1 ? least : best[i];
    }

    int cost(int r) {
        if (!room(r)) return UNKNOWN;
        int doorsAway = away(0, r);
        return doorsAway == NONE ? NONE : 2 * doorsAway + standing(r);
    }

    private static boolean minutesAsTold(int minutes, int n) {
        for (int i = 0; i < n; i++) {
            if ((minutes >> 7 * i & 127) > 99) return false;
        }
        return true;
    }

    private static void allPlans(int[] rooms, int at, List<int[]> all) {
        if (at == rooms.length) {
            all.add(rooms.clone());
            return;
        }
        for (int r = 0; r <= 8; r++) {
            rooms[at] = r;
            allPlans(rooms, at + 1, all);
        }
    }

    private int behind(int[] rooms, int minutes) {
        for (int i = 0; i < rooms.length; i++) {
            int cost = room(rooms[i]) ? cost(rooms[i]) : 0;
            if (cost == NONE || cost > (minutes >> 7 * i & 127)) return NONE;
        }
        PlainPalace then = copy();
        for (int r : rooms) {
            if (room(r)) then.walk(r);
            then.oneDay();
        }
        return then.count(4);
    }

    int plan(int n, int minutes, int what) {
        if (!in(n, 1, 4) || !in(what, -1, n - 1) || !minutesAsTold(minutes, n)) return OUTSIDE;
        List<int[]> plans = new ArrayList<>();
        allPlans(new int[n], 0, plans);
        int most = NONE;
        int[] best = plans.get(plans.size() - 1);
        for (int[] rooms : plans) {
            int strength = behind(rooms, minutes);
            if (strength > most) {
                most = strength;
                best = rooms;
            }
        }
        return what == -1 ? most : best[what];
    }

    int judge(int row, int n, int minutes) {
        if (!in(n, 1, 4) || !minutesAsTold(minutes, n)) return OUTSIDE;
        int[] rooms = new int[n];
        for (int i = 0; i < n; i++) {
            rooms[i] = row >> 4 * i & 15;
            if (rooms[i] > 8) return OUTSIDE;
        }
        return behind(rooms, minutes);
    }

    int right(int c, int part) {
        if (!place(c)) return UNKNOWN;
        if (!in(part, 0, 1)) return OUTSIDE;
        if (top[c] == null) return NOT;
        int above = top[c].strength;
        int below = above + (ghost[c] == null ? 0 : ghost[c].strength);
        for (int other = 0; other < 48; other++) {
            if (crowds(other, c)) below += top[other].strength;
        }
        if (below == 0) return NOT;
        for (int by = below; by > 1; by--) {
            if (above % by == 0 && below % by == 0) {
                above /= by;
                below /= by;
            }
        }
        return part == 0 ? above : below;
    }

    int causes(int c, int said) {
        if (!place(c) || !thing(said)) return UNKNOWN;
        if (top[c] == null || top[c].thing == said) return NOT;
        int causes = like(top[c].thing, said) >= tell ? 1 : 0;
        if (ghost[c] != null && ghost[c].thing == said) causes += 2;
        for (int r = 0; r < 8; r++) {
            Held there = top[6 * r + c % 6];
            if (isDoor(r, c / 6) && there != null && there.thing == said) causes += 4;
        }
        return causes;
    }

    int asked(int t, int r) {
        if (!thing(t) || !room(r)) return UNKNOWN;
        int at = where(t);
        if (at == NONE || away(r, at / 6) == NONE) return NONE;
        return away(r, at / 6) + at % 6 + 1;
    }

    int beside(int t, int side) {
        if (!thing(t)) return UNKNOWN;
        if (!in(side, 0, 1)) return OUTSIDE;
        int at = where(t);
        if (at == NONE) return NONE;
        int step = 2 * side - 1;
        for (int c = at + step; place(c) && c / 6 == at / 6; c += step) {
            if (top[c] != null) return top[c].thing;
        }
        return NONE;
    }

    int answer(int pupil, int d, boolean right) {
        if (!in(pupil, 0, 3)) return UNKNOWN;
        if (!in(d, 1, 60)) return OUTSIDE;
        if (answers.get(pupil).size() == 12) return FULL;
        answers.get(pupil).add(new int[] {d, right ? 1 : 0});
        return answers.get(pupil).size();
    }

    private static boolean so(int a, int limit, int d) {
        return 100 - a * d >= limit;
    }

    int pupil(int pupil, int what) {
        if (!in(pupil, 0, 3)) return UNKNOWN;
        if (!in(what, 0, 3)) return OUTSIDE;
        List<int[]> told = answers.get(pupil);
        List<int[]> mayBe = new ArrayList<>();
        int most = -1;
        int likeliest = 0;
        for (int a = 1; a <= 9; a++) {
            for (int limit = 10; limit <= 90; limit += 10) {
                int agree = 0;
                for (int[] answer : told) {
                    if (so(a, limit, answer[0]) == (answer[1] == 1)) agree++;
                }
                if (agree == told.size()) mayBe.add(new int[] {a, limit});
                if (agree > most) {
                    most = agree;
                    likeliest = 100 * a + limit;
                }
            }
        }
        if (what == 3) return parts(mayBe);
        return what == 0 ? mayBe.size() : what == 1 ? likeliest : most;
    }

    private static int parts(List<int[]> mayBe) {
        int best = NONE;
        int least = Integer.MAX_VALUE;
        for (int d = 60; d >= 1 && !mayBe.isEmpty(); d--) {
            int right = 0;
            for (int[] table : mayBe) {
                if (so(table[0], table[1], d)) right++;
            }
            int unlike = Math.abs(right - (mayBe.size() - right));
            if (unlike <= least) {
                least = unlike;
                best = d;
            }
        }
        return best;
    }

    int figures(int a, int b, int v) {
        if (!in(a, 0, 9) || !in(b, 0, 9) || a == b) return UNKNOWN;
        if (!in(v, 0, 9)) return OUTSIDE;
        int was = alike[Math.min(a, b)][Math.max(a, b)];
        alike[Math.min(a, b)][Math.max(a, b)] = v;
        return was;
    }

    int code(long row, int n, int i) {
        int[] things = things(row, n);
        int refusal = refusal(things, n, i, 2, 6);
        if (refusal != 0) return refusal;
        if (i >= n) return NONE;
        int least = Integer.MAX_VALUE;
        int[] best = things;
        for (int[] order : orders(things)) {
            int harm = 0;
            for (int a = 0; a < n; a++) {
                for (int b = a + 1; b < n; b++) harm += like(order[a], order[b]) * alike[a][b];
            }
            if (harm < least) {
                least = harm;
                best = order;
            }
        }
        return i == -1 ? least : best[i];
    }

    int enough(int corners) {
        if (!in(corners, 0, 48)) return OUTSIDE;
        List<Integer> rooms = new ArrayList<>();
        for (int r = 0; r < 8; r++) {
            if (away(0, r) != NONE) rooms.add(r);
        }
        rooms.sort((p, q) -> away(0, p) != away(0, q) ? away(0, p) - away(0, q) : p - q);
        int held = 0;
        for (int needed = 0; needed <= rooms.size(); needed++) {
            if (held >= corners) return needed;
            if (needed < rooms.size()) {
                int most = last("room", rooms.get(needed));
                held += most == NONE ? 6 : Math.min(6, most);
            }
        }
        return NONE;
    }

    int count(int what) {
        int[] counts = {day, doors.size(), 0, 0, 0, text.length(), rules.size()};
        if (!in(what, 0, 6)) return OUTSIDE;
        for (int c = 0; c < 48; c++) {
            if (top[c] != null) {
                counts[2]++;
                counts[4] += top[c].strength;
            }
            if (ghost[c] != null) counts[3]++;
        }
        return counts[what];
    }
}
