import java.util.ArrayList;
import java.util.List;

/** All that can be seen of a press, to hold two of them against each other; looking goes on printing in the end. */
final class Seen {
    private final InkPress x;
    private final List<String> lines = new ArrayList<>();

    private Seen(InkPress x) {
        this.x = x;
    }

    static List<String> of(InkPress x) {
        Seen seen = new Seen(x);
        seen.lookAtThePress();
        seen.lookAtSheets();
        seen.lookAtPastJobs();
        seen.lookAtMarks();
        seen.lookAtJobs();
        seen.lookAtRules();
        seen.goOn();
        return seen.lines;
    }

    private void note(String call, long answer) {
        lines.add(call + " " + answer);
    }

    private void lookAtThePress() {
        for (int what = 0; what <= 9; what++) {
            note("told " + what, x.told(what));
        }
        for (int z = 0; z <= 5; z++) {
            for (int what = 0; what <= 3; what++) {
                note("zone " + z + " " + what, x.zone(z, what));
            }
            for (int r = 0; r <= 4; r++) {
                note("ink " + r + " " + z, x.ink(r, z));
            }
        }
    }

    private void lookAtSheets() {
        int last = x.told(0);
        int[] sheets = {1, 2, 30, last, last + 1};
        for (int sheet : sheets) {
            note("good " + sheet, x.good(sheet));
            for (int z = 0; z < 5; z++) {
                note("density " + sheet + " " + z, x.density(sheet, z));
            }
        }
    }

    private void lookAtPastJobs() {
        for (int cover = 0; cover <= 100; cover += 10) {
            note("preset " + cover, x.preset(cover));
        }
    }

    private void lookAtMarks() {
        for (int which = 0; which <= 3; which++) {
            note("fit " + which + " 0", x.fit(which, 0));
            note("fit " + which + " 1", x.fit(which, 1));
        }
        for (int i = 0; i <= 8; i++) {
            note("off " + i + " 0", x.off(i, 0));
            note("off " + i + " 1", x.off(i, 1));
        }
    }

    private void lookAtJobs() {
        note("order", x.order());
        for (int i = 0; i <= 7; i++) {
            note("orderAt " + i, x.orderAt(i));
        }
        for (int from = 0; from <= 3; from++) {
            for (int to = 0; to <= 3; to++) {
                int was = x.wash(from, to, 1);
                note("wash " + from + " " + to, was);
                x.wash(from, to, was);
            }
        }
        note("order", x.order());
    }

    private void lookAtRules() {
        for (int which = 0; which <= 8; which++) {
            int was = x.rule(which, 1);
            note("rule " + which, was);
            x.rule(which, was);
        }
    }

    /** What is not told shows in what comes next: how many were good in a row, whether keys are steered. */
    private void goOn() {
        x.rule(6, 500);
        note("print", x.print(1));
        note("start", x.told(3));
        note("print", x.print(5));
        for (int z = 0; z < 5; z++) {
            note("key " + z, x.zone(z, 0));
        }
        note("in", x.told(4));
        note("past", x.past(50, 50));
        note("mark", x.mark(1, 2, 3, 4));
        note("clear", x.clear());
        note("job", x.job(3, 4));
        note("forget", x.forget());
    }
}
