/** All promises: long runs of calls, ordinary and wild ones, each answer held against that of PlainPalace. */
public final class AgainstPlainTest {

    private static final int RUNS = 400;
    /** What an object answers behind its 512th call is free. */
    private static final int CALLS = 512;
    private static final int MOST_OF_A_STEP = 32;
    private static final int KINDS = 32;
    private static final int[] WILD = {-1, -2, 8, 9, 24, 31, 48, 61, 100, 256, 1000,
            Integer.MAX_VALUE, Integer.MIN_VALUE, Integer.MIN_VALUE + 1};
    private static final String[] PIECES = {"room ", "again ", "apart ", "walk ", " every ", ";", " ", "0", "1", "5",
            "7", "8", "9", "12", "99", "100", "x", "Z", "-", "room", "every"};
    private static final Due due = new Due();

    private long seed;
    private PalaceOfRooms real;
    private PlainPalace plain;
    private String name;
    private int calls;

    public static void main(String[] args) {
        AgainstPlainTest test = new AgainstPlainTest();
        for (int run = 0; run < RUNS; run++) {
            test.oneRun(run);
        }
        due.end();
    }

    private void oneRun(int run) {
        seed = run * 7919L + 1;
        real = new PalaceOfRooms();
        plain = new PlainPalace();
        calls = 0;
        while (calls < CALLS - MOST_OF_A_STEP) {
            name = "run " + run + ", call " + calls;
            int kind = below(KINDS + 16);
            // The dear searches come less often; what builds the house comes more often.
            if (kind >= KINDS) {
                kind = kind % 3 == 0 ? 6 : kind % 3 == 1 ? 2 : 10;
            }
            if ((kind == 19 || kind == 21) && below(4) != 0) {
                kind = 32;
            }
            call(kind);
            if (below(12) == 0) {
                lookAround();
            }
        }
    }

    private void lookAround() {
        int c = below(48);
        for (int what = 0; what <= 4; what++) {
            same("corner(" + c + ", " + what + ")", real.corner(c, what), plain.corner(c, what));
        }
    }

    private int below(int n) {
        seed = seed * 6364136223846793005L + 1442695040888963407L;
        return (int) ((seed >>> 33) % n);
    }

    /** Mostly from least to most, at times beside it, at times far off. */
    private int number(int least, int most) {
        int die = below(40);
        if (die == 0) return WILD[below(WILD.length)];
        if (die == 1) return least - 1;
        if (die == 2) return most + 1;
        return least + below(most - least + 1);
    }

    private long row(int n) {
        long row = 0;
        int first = below(24);
        int step = new int[] {1, 5, 7, 11, 13}[below(5)];
        for (int k = 0; k < Math.min(n, 12); k++) {
            row |= (long) ((first + k * step) % 24) << 5 * k;
        }
        int die = below(12);
        if (die == 0) return row | 24L << 5 * below(8);
        if (die == 1) return row & ~(31L << 5 * below(4));
        if (die == 2) return (long) below(1 << 30) << 32 | below(1 << 30);
        return row;
    }

    private int minutes() {
        int minutes = 0;
        for (int i = 0; i < 4; i++) {
            minutes |= (below(30) == 0 ? below(128) : below(3) == 0 ? below(100) : below(9)) << 7 * i;
        }
        return below(30) == 0 ? minutes | below(16) << 28 : minutes;
    }

    private int marks() {
        return below(3) == 0 ? number(0, 255) : below(2) == 0 ? 255 >> below(8) : 0b1111 << below(4);
    }

    private void same(String call, int got, int want) {
        calls++;
        due.is(name + ": " + call, got, want);
    }

    private void call(int kind) {
        if (kind < 12) {
            callHouse(kind);
        } else if (kind < 20) {
            callRules(kind);
        } else if (kind < 26) {
            callPlans(kind);
        } else {
            callPupils(kind);
        }
    }

    private void callHouse(int kind) {
        int t = number(0, 23);
        int c = below(2) == 0 ? number(0, 47) : below(12);
        int a = number(0, 7);
        int b = number(0, 7);
        switch (kind) {
            case 0: same("door(" + a + ", " + b + ")", real.door(a, b), plain.door(a, b)); break;
            case 1: same("away(" + a + ", " + b + ")", real.away(a, b), plain.away(a, b)); break;
            case 2: int m = marks(); same("marks(" + t + ", " + m + ")", real.marks(t, m), plain.marks(t, m)); break;
            case 3: int u = number(0, 23); same("like(" + t + ", " + u + ")", real.like(t, u), plain.like(t, u)); break;
            case 4:
                int what = number(0, 1);
                int v = what == 0 ? number(1, 8) : number(0, 100);
                same("set(" + what + ", " + v + ")", real.set(what, v), plain.set(what, v));
                break;
            case 5:
                int klass = number(0, 10);
                int f = below(2) == 0 ? number(0, 30) : below(4);
                same("fall(" + klass + ", " + f + ")", real.fall(klass, f), plain.fall(klass, f));
                break;
            case 6: case 7: same("put(" + t + ", " + c + ")", real.put(t, c), plain.put(t, c)); break;
            case 8: same("clear(" + c + ")", real.clear(c), plain.clear(c)); break;
            case 9: same("where(" + t + ")", real.where(t), plain.where(t)); break;
            case 10:
                int n = below(10) == 0 ? number(1, 60) : 1 + below(3);
                same("days(" + n + ")", real.days(n), plain.days(n));
                break;
            default: same("walk(" + a + ")", real.walk(a), plain.walk(a)); break;
        }
    }

    private void callRules(int kind) {
        int t = number(0, 23);
        int c = below(2) == 0 ? number(0, 47) : below(12);
        switch (kind) {
            case 12: case 13: writeSome(); break;
            case 14: same("erase()", real.erase(), plain.erase()); break;
            case 15: same("fault()", real.fault(), plain.fault()); break;
            case 16: same("rules()", real.rules(), plain.rules()); break;
            case 17: same("bars(" + t + ", " + c + ")", real.bars(t, c), plain.bars(t, c)); break;
            case 18: same("due()", real.due(), plain.due()); break;
            default:
                int n = below(3) == 0 ? number(1, 8) : 1 + below(6);
                long row = row(n);
                int i = number(-1, 8);
                same("laid(" + row + ", " + n + ", " + i + ")", real.laid(row, n, i), plain.laid(row, n, i));
                break;
        }
    }

    private void callPlans(int kind) {
        int t = number(0, 23);
        int c = below(2) == 0 ? number(0, 47) : below(12);
        int r = number(0, 7);
        int minutes = minutes();
        int side = number(0, 1);
        switch (kind) {
            case 20: same("cost(" + r + ")", real.cost(r), plain.cost(r)); break;
            case 21:
                int n = below(8) == 0 ? number(1, 4) : 1 + below(3);
                int what = number(-1, Math.max(0, Math.min(3, n - 1)));
                same("plan(" + n + ", " + minutes + ", " + what + ")",
                        real.plan(n, minutes, what), plain.plan(n, minutes, what));
                break;
            case 22:
                int days = number(1, 4);
                int row = Due.rooms(below(9), below(10), below(9), below(10)) | below(16) << 16;
                same("judge(" + row + ", " + days + ", " + minutes + ")",
                        real.judge(row, days, minutes), plain.judge(row, days, minutes));
                break;
            case 23: same("right(" + c + ", " + side + ")", real.right(c, side), plain.right(c, side)); break;
            case 24: same("causes(" + c + ", " + t + ")", real.causes(c, t), plain.causes(c, t)); break;
            default:
                same("asked(" + t + ", " + r + ")", real.asked(t, r), plain.asked(t, r));
                same("beside(" + t + ", " + side + ")", real.beside(t, side), plain.beside(t, side));
                break;
        }
    }

    private void callPupils(int kind) {
        int p = number(0, 3);
        switch (kind) {
            case 26:
                int d = number(1, 60);
                boolean right = below(4) == 0 ? below(2) == 0 : d < 8 + 5 * p;
                same("answer(" + p + ", " + d + ", " + right + ")", real.answer(p, d, right), plain.answer(p, d, right));
                break;
            case 27: int w = number(0, 3); same("pupil(" + p + ", " + w + ")", real.pupil(p, w), plain.pupil(p, w)); break;
            case 28:
                int a = number(0, 9);
                int b = number(0, 9);
                int v = number(0, 9);
                same("figures(" + a + ", " + b + ", " + v + ")", real.figures(a, b, v), plain.figures(a, b, v));
                break;
            case 29:
                int n = number(2, 6);
                long row = row(n);
                int i = number(-1, 6);
                same("code(" + row + ", " + n + ", " + i + ")", real.code(row, n, i), plain.code(row, n, i));
                break;
            case 30: int all = number(0, 48); same("enough(" + all + ")", real.enough(all), plain.enough(all)); break;
            default: int of = number(0, 6); same("count(" + of + ")", real.count(of), plain.count(of)); break;
        }
    }

    private void writeSome() {
        if (below(30) == 0) {
            long bytes = (long) below(1 << 30) << 34 ^ below(1 << 30);
            int n = number(1, 8);
            same("write(" + bytes + ", " + n + ")", real.write(bytes, n), plain.write(bytes, n));
            return;
        }
        String line = below(4) == 0 ? piecesAtRandom() : lineAsDue();
        for (int from = 0; from < line.length(); from += 8) {
            int n = Math.min(8, line.length() - from);
            long bytes = Due.packed(line.substring(from, from + n));
            same("write of " + line, real.write(bytes, n), plain.write(bytes, n));
        }
    }

    private String piecesAtRandom() {
        StringBuilder pieces = new StringBuilder();
        for (int k = below(5); k >= 0; k--) {
            pieces.append(PIECES[below(PIECES.length)]);
        }
        return pieces.toString();
    }

    private String lineAsDue() {
        String line;
        switch (below(4)) {
            case 0: line = "room " + number(0, 7) + " " + number(0, 8); break;
            case 1: line = "again " + number(1, 99); break;
            case 2: line = "apart " + number(0, 8); break;
            default: line = "walk " + number(0, 7) + " every " + number(1, below(2) == 0 ? 9 : 99); break;
        }
        return real.count(5) > 0 ? ";" + line : line;
    }
}
