import java.util.ArrayList;
import java.util.List;

/** All that can be seen of a palace, by some 400 calls; the palace is of no use behind them. */
final class Seen {

    private final PalaceOfRooms x;
    private final List<String> seen = new ArrayList<>();

    private Seen(PalaceOfRooms x) {
        this.x = x;
    }

    static List<String> of(PalaceOfRooms x) {
        Seen all = new Seen(x);
        all.lookAtCorners();
        all.lookAtTheRest();
        all.lookByChanging();
        return all.seen;
    }

    private int note(String call, int answer) {
        seen.add(call + " = " + answer);
        return answer;
    }

    private void lookAtCorners() {
        for (int corner = 0; corner < 48; corner++) {
            for (int what = 0; what <= 2; what += 2) {
                if (note("corner(" + corner + ", " + what + ")", x.corner(corner, what)) != PalaceOfRooms.NONE) {
                    note("corner(" + corner + ", " + (what + 1) + ")", x.corner(corner, what + 1));
                }
            }
            note("corner(" + corner + ", 4)", x.corner(corner, 4));
        }
    }

    private void lookAtTheRest() {
        for (int what = 0; what <= 6; what++) {
            note("count(" + what + ")", x.count(what));
        }
        for (int thing = 0; thing < 24; thing++) {
            note("where(" + thing + ")", x.where(thing));
            note("bars(" + thing + ", " + 2 * thing + ")", x.bars(thing, 2 * thing));
        }
        for (int a = 0; a < 8; a++) {
            for (int b = a + 1; b < 8; b++) {
                note("away(" + a + ", " + b + ")", x.away(a, b));
            }
        }
        for (int pupil = 0; pupil < 4; pupil++) {
            for (int what = 0; what <= 3; what++) {
                note("pupil(" + pupil + ", " + what + ")", x.pupil(pupil, what));
            }
        }
        note("due()", x.due());
        note("enough(48)", x.enough(48));
        note("fault()", x.fault());
    }

    /** What a call tells only by putting something else in its place. */
    private void lookByChanging() {
        for (int thing = 0; thing < 24; thing++) {
            note("marks of " + thing, x.marks(thing, 0));
        }
        for (int klass = 0; klass <= 10; klass++) {
            note("FALL of " + klass, x.fall(klass, 0));
        }
        note("TELL", x.set(0, 1));
        note("GAIN", x.set(1, 0));
        for (int pupil = 0; pupil < 4; pupil++) {
            note("one ANSWER more of " + pupil, x.answer(pupil, 1, true));
        }
        for (int a = 0; a < 10; a++) {
            for (int b = a + 1; b < 10; b++) {
                note("alike " + a + ", " + b, x.figures(a, b, 0));
            }
        }
        note("rules()", x.rules());
        note("due() by them", x.due());
        note("enough(48) by them", x.enough(48));
        note("bars(23, 0) by them", x.bars(23, 0));
    }
}
