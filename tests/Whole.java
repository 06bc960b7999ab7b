import java.util.ArrayList;
import java.util.List;

/** All that can be asked of a diary, as it stands and once it went on to its end, as one text. */
final class Whole {
    /** So many questions, behind the longest story and all that goes on, stay below 512 calls. */
    private static final int QUESTIONS = 120;

    private Whole() {
    }

    static String of(CheckEdges.Story story) {
        StringBuilder text = new StringBuilder();
        ask(story, questions(story), text);
        int swaps = count(story, (x, i) -> x.swapOf(i));
        CheckEdges.Story later = x -> {
            story.tell(x);
            goOn(x, swaps);
        };
        text.append("\nlater:");
        ask(later, rows(story), text);
        return text.toString();
    }

    private static void ask(CheckEdges.Story story, List<CheckEdges.Asked> questions, StringBuilder text) {
        Rigdiary x = CheckEdges.diary(story);
        for (int i = 0; i < questions.size(); i++) {
            if (i % QUESTIONS == 0) {
                x = CheckEdges.diary(story);
            }
            Rigdiary asked = x;
            CheckEdges.Asked question = questions.get(i);
            text.append(' ').append(Check.answer(() -> question.of(asked)));
        }
    }

    /** Everybody agrees to every swap, and all slots pass: what cannot be asked shows by what comes of it. */
    private static void goOn(Rigdiary x, int swaps) {
        for (int swap = 0; swap < swaps; swap++) {
            for (int p = 0; p < 10; p++) {
                int person = p;
                int number = swap;
                Check.answer(() -> x.agree(person, number));
            }
        }
        Ways.passTo(x, 400);
    }

    /** How many rows there are: the first number that is refused. */
    private static int count(CheckEdges.Story story, CheckEdges.Told question) {
        Rigdiary x = CheckEdges.diary(story);
        for (int i = 0; i < 100; i++) {
            int number = i;
            Object answer = Check.answer(() -> {
                question.with(x, number);
                return null;
            });
            if (answer != null) {
                return i;
            }
        }
        return 100;
    }

    private static List<CheckEdges.Asked> questions(CheckEdges.Story story) {
        List<CheckEdges.Asked> all = rows(story);
        all.add(x -> "\nslot " + x.slot());
        for (int p = 0; p < 10; p++) {
            free(p, all);
        }
        int machines = count(story, (x, i) -> x.has(i, 0));
        for (int m = 0; m < machines; m++) {
            machine(m, all);
        }
        all.add(x -> x.has(machines, 0));
        return all;
    }

    /** The rows that there are, and of each kind the first one that is not there. */
    private static List<CheckEdges.Asked> rows(CheckEdges.Story story) {
        List<CheckEdges.Asked> all = new ArrayList<>();
        int meetings = count(story, (x, i) -> x.meetingOf(i, 0));
        for (int i = 0; i <= meetings; i++) {
            int number = i;
            for (int w = 0; w < 5; w++) {
                int what = w;
                all.add(x -> x.meetingOf(number, what));
            }
        }
        int swaps = count(story, (x, i) -> x.swapOf(i));
        for (int i = 0; i <= swaps; i++) {
            int number = i;
            all.add(x -> x.swapOf(number));
        }
        int builds = count(story, (x, i) -> x.buildOf(i, 0));
        for (int i = 0; i <= builds; i++) {
            build(i, all);
        }
        return all;
    }

    private static void build(int number, List<CheckEdges.Asked> all) {
        for (int w = 0; w < 4; w++) {
            int what = w;
            all.add(x -> x.buildOf(number, what));
        }
        all.add(x -> x.beganAnew(number));
    }

    private static void free(int person, List<CheckEdges.Asked> all) {
        all.add(x -> "\nperson " + person);
        for (int s = 0; s < 400; s++) {
            int slot = s;
            all.add(x -> x.isFree(person, slot));
        }
    }

    private static void machine(int number, List<CheckEdges.Asked> all) {
        all.add(x -> "\nmachine " + number);
        for (int s = 0; s < 400; s++) {
            int slot = s;
            all.add(x -> x.has(number, slot));
        }
        for (int d = 0; d < 50; d++) {
            for (int i = 0; i < 17; i++) {
                int day = d;
                int at = i;
                all.add(x -> x.diary(number, day, at));
            }
        }
    }
}
