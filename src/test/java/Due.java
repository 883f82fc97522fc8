/** What every test shares: it prints each answer that is not the one due, and ends with exit code 1 if there was one. */
final class Due {

    private int wrong;
    private int looked;

    void is(String call, long got, long want) {
        looked++;
        if (got != want) {
            wrong++;
            System.out.println(call + " answered " + got + ", due is " + want);
        }
    }

    void end() {
        System.out.println(looked + " answers, " + wrong + " not as due");
        if (wrong != 0 || looked == 0) {
            System.exit(1);
        }
    }

    /** Writes a text in pieces of eight bytes; answers what the last call answered. */
    static int write(PalaceOfRooms palace, String text) {
        int answer = 0;
        for (int from = 0; from < text.length(); from += 8) {
            int n = Math.min(8, text.length() - from);
            answer = palace.write(packed(text.substring(from, from + n)), n);
        }
        return answer;
    }

    static long packed(String piece) {
        long bytes = 0;
        for (int i = 0; i < piece.length(); i++) {
            bytes |= (long) (piece.charAt(i) & 255) << 8 * i;
        }
        return bytes;
    }

    static long row(int... things) {
        long row = 0;
        for (int k = 0; k < things.length; k++) {
            row |= (long) things[k] << 5 * k;
        }
        return row;
    }

    static int minutes(int... each) {
        int minutes = 0;
        for (int i = 0; i < each.length; i++) {
            minutes |= each[i] << 7 * i;
        }
        return minutes;
    }

    static int rooms(int... each) {
        int rooms = 0;
        for (int i = 0; i < each.length; i++) {
            rooms |= each[i] << 4 * i;
        }
        return rooms;
    }
}
