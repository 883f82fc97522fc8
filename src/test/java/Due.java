import java.util.List;

/** What every test shares: it prints each answer that is not the one due, and ends with exit code 1 if there was one. */
final class Due {

    /** A call of one palace. */
    interface Call {
        int on(PalaceOfRooms x);
    }

    private int wrong;
    private int looked;

    void is(String call, long got, long want) {
        looked++;
        if (got != want) {
            wrong++;
            System.out.println(call + " answered " + got + ", due is " + want);
        }
    }

    void isNot(String call, long got, long bad) {
        looked++;
        if (got == bad) {
            wrong++;
            System.out.println(call + " answered " + got + ", which is not due");
        }
    }

    /** The call answers this and changes nothing that can be seen. */
    void leaves(String name, Palaces kind, Call call, int want) {
        PalaceOfRooms called = kind.make();
        is(name + ", " + kind, call.on(called), want);
        same(name + ", " + kind + ": nothing changes", Seen.of(called), Seen.of(kind.make()));
    }

    private void same(String name, List<String> got, List<String> want) {
        looked++;
        for (int i = 0; i < want.size() || i < got.size(); i++) {
            String due = i < want.size() ? want.get(i) : "nothing";
            String seen = i < got.size() ? got.get(i) : "nothing";
            if (!due.equals(seen)) {
                wrong++;
                System.out.println(name + ": " + seen + ", due is " + due);
                return;
            }
        }
    }

    void end() {
        System.out.println(looked + " answers, " + wrong + " not as due");
        if (wrong != 0 || looked == 0) {
            System.exit(1);
        }
    }

    /** Writes a text in pieces of eight bytes; answers what the last call answered. */
    static int write(PalaceOfRooms palace, String text) {
        int answer = 0;
        for (int from = 0; from < text.length(); from += 8) {
            int n = Math.min(8, text.length() - from);
            answer = palace.write(packed(text.substring(from, from + n)), n);
        }
        return answer;
    }

    static long packed(String piece) {
        long bytes = 0;
        for (int i = 0; i < piece.length(); i++) {
            bytes |= (long) (piece.charAt(i) & 255) << 8 * i;
        }
        return bytes;
    }

    static long row(int... things) {
        long row = 0;
        for (int k = 0; k < things.length; k++) {
            row |= (long) things[k] << 5 * k;
        }
        return row;
    }

    static int minutes(int... each) {
        int minutes = 0;
        for (int i = 0; i < each.length; i++) {
            minutes |= each[i] << 7 * i;
        }
        return minutes;
    }

    static int rooms(int... each) {
        int rooms = 0;
        for (int i = 0; i < each.length; i++) {
            rooms |= each[i] << 4 * i;
        }
        return rooms;
    }
}
