/**
 * Calls at the edges of what the document allows. Each is made on diaries to which a story is told anew: an object is
 * used for 512 calls at most, and to see all that stands behind a refused call takes more questions than that.
 */
final class CheckEdges {
    private CheckEdges() {
    }

    interface Story {
        void tell(Rigdiary x);
    }

    interface Asked {
        Object of(Rigdiary x);
    }

    interface Told {
        void with(Rigdiary x, int value);
    }

    static Rigdiary diary(Story story) {
        Rigdiary x = new Rigdiary();
        story.tell(x);
        return x;
    }

    /** Behind the story, the call answers what is due. */
    static void answers(Story story, Object due, Asked call) {
        Rigdiary x = diary(story);
        Check.is(due, () -> call.of(x));
    }

    /** Behind the story, the call throws exactly this, and all that stands then is the same as without the call. */
    static void refuses(Story story, Class<? extends RuntimeException> due, Story call) {
        Rigdiary x = diary(story);
        Check.refuses(due, () -> call.tell(x));
        same(Whole.of(story), Whole.of(y -> {
            story.tell(y);
            Check.answer(() -> {
                call.tell(y);
                return null;
            });
        }));
    }

    /** Behind the story, the question leaves all as it is. */
    static void changesNothing(Story story, Asked question) {
        same(Whole.of(story), Whole.of(y -> {
            story.tell(y);
            question.of(y);
        }));
    }

    /** The least and the greatest value are taken; those next to them, and the farthest ones, are refused. */
    static void range(Story story, int least, int most, Class<? extends RuntimeException> due, Told call) {
        for (int value : new int[] {least, most}) {
            Rigdiary x = diary(story);
            Check.does(() -> call.with(x, value));
        }
        outside(story, least, most, due, call);
    }

    static void outside(Story story, int least, int most, Class<? extends RuntimeException> due, Told call) {
        for (int value : new int[] {least - 1, most + 1, Integer.MIN_VALUE, Integer.MAX_VALUE}) {
            refuses(story, due, x -> call.with(x, value));
        }
    }

    private static void same(String ahead, String behind) {
        int at = 0;
        while (at < ahead.length() && at < behind.length() && ahead.charAt(at) == behind.charAt(at)) {
            at++;
        }
        Check.compare(around(ahead, at), around(behind, at));
    }

    /** All of both is too much to read: the place where they part tells enough. */
    private static String around(String text, int at) {
        return text.substring(Math.max(0, at - 60), Math.min(text.length(), at + 60));
    }
}
