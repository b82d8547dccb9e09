import java.util.ArrayList;
import java.util.List;

/**
 * Whether a call has changed anything: all by which an object can be told from its twin, which was made by
 * the same calls but for that one. Acts are undone, images gone back to, each rule run and the tape told, so the
 * object is used up by it.
 */
final class Probe {
    private final LentTools x;
    private final List<String> answers = new ArrayList<>();

    private Probe(LentTools x) {
        this.x = x;
    }

    /** What differs first between two objects; empty: nothing does. */
    static String difference(LentTools one, LentTools twin) {
        List<String> got = new Probe(one).all();
        List<String> due = new Probe(twin).all();
        for (int i = 0; i < got.size() && i < due.size(); i++) {
            if (!got.get(i).equals(due.get(i))) {
                return got.get(i) + " instead of " + due.get(i);
            }
        }
        // A test by more calls than the document speaks of would tell nothing.
        return got.size() == due.size() && got.size() < 450 ? "" : "too many answers, or too few";
    }

    private void note(String call, long answer) {
        answers.add(call + ": " + answer);
    }

    private List<String> all() {
        state("now");
        for (int i = x.count(9); i >= 0; i--) {
            note("undo", x.undo());
            state("undone to " + i);
        }
        for (int k = 0; k < 4; k++) {
            int day = x.back(k);
            note("back " + k, day);
            if (day >= 0) {
                state("image " + k);
            }
        }
        int rules = x.count(4);
        for (int rule = 0; rule < rules; rule++) {
            note("run", x.run(rule, 1));
            state("rule " + rule);
        }
        note("village", x.village());
        state("told");
        return answers;
    }

    private void state(String when) {
        for (int what = 0; what <= 11; what++) {
            note(when + ", count " + what, x.count(what));
        }
        int tools = x.count(2);
        for (int tool = 0; tool < tools; tool++) {
            for (int what : new int[] {0, 3, 4, 5}) {
                note(when + ", tool " + tool + " " + what, x.tool(tool, what));
            }
        }
        int works = x.count(3);
        for (int work = 0; work < works; work++) {
            note(when + ", work " + work, x.work(work, 4));
        }
        int houses = x.count(0);
        for (int one = 0; one < houses; one++) {
            for (int other = 0; other < houses; other++) {
                if (one != other) {
                    note(when + ", trust " + one + " " + other, x.house(one, other, 0));
                    note(when + ", thanks " + one + " " + other, x.house(one, other, 1));
                }
            }
        }
    }
}
