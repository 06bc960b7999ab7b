/** Many runs of calls, drawn by a counter of its own, each answered by the program and by the model alike. */
public final class ModelTest {
    private static final String[] NAMES = {"machine", "leave", "lend", "breakDown", "meeting", "move", "cancel", "swap",
        "agree", "build", "urge", "pass", "slot", "meetingOf", "swapOf", "buildOf", "beganAnew", "has", "isFree",
        "diary"};
    private static final int RUNS = 4000;
    private static final int OTHER = -1004;

    private static long drawn = 1;
    private static int wrong = 0;
    private static int answers = 0;
    private static final int[] ended = new int[NAMES.length];
    private static final int[] threw = new int[NAMES.length];
    private static final int[] swapEnds = new int[3];

    public static void main(String[] args) {
        for (int run = 0; run < RUNS && wrong < 5; run++) {
            drawn = run * 7919L + 17;
            oneRun(run);
        }
        for (int i = 0; i < NAMES.length; i++) {
            if (ended[i] == 0 || threw[i] == 0 && i != 12) {
                wrong++;
                System.out.println("the runs do not reach all of " + NAMES[i]);
            }
        }
        if (swapEnds[1] < 100 || swapEnds[2] < 100) {
            wrong++;
            System.out.println("the runs do not reach all ends of swaps");
        }
        System.out.println("ModelTest: " + answers + " answers, " + wrong + " not as due");
        if (wrong != 0) {
            System.exit(1);
        }
    }

    private static int draw(int below) {
        drawn = drawn * 6364136223846793005L + 1442695040888963407L;
        return (int) Long.remainderUnsigned(drawn >>> 20, below);
    }

    /** Mostly a value that is meant to be good, at times one at an edge or beyond it. */
    private static int about(int good) {
        int[] odd = {-1, -2, 0, 1, 6, 7, 9, 10, 15, 16, 40, 41, 49, 50, 399, 400, 1023, 1024,
            Integer.MAX_VALUE, Integer.MIN_VALUE};
        return draw(40) == 0 ? odd[draw(odd.length)] : good;
    }

    private static void oneRun(int run) {
        Rigdiary x = new Rigdiary();
        Model y = new Model();
        int pace = 1 + draw(3) * 3;
        int people = 1 + draw(10);
        StringBuilder story = new StringBuilder();
        for (int call = 0; call < 512 && wrong < 5; call++) {
            int kind = kind();
            int[] a = arguments(kind, y, pace, people);
            long got = ask(x, kind, a);
            long due = askModel(y, kind, a);
            answers++;
            count(kind, due);
            story.append(NAMES[kind]).append(java.util.Arrays.toString(a)).append(" -> ").append(got).append('\n');
            if (got != due) {
                wrong++;
                System.out.println("run " + run + ", call " + call + ", due is " + due + ":\n" + story);
                return;
            }
        }
        goOn(run, x, y, pace, people);
    }

    /** Behind the 512th call any answer is good, but nothing that the machine throws. */
    private static void goOn(int run, Rigdiary x, Model y, int pace, int people) {
        for (int call = 0; call < 100; call++) {
            int kind = kind();
            int[] a = arguments(kind, y, pace, people);
            if (ask(x, kind, a) == OTHER) {
                wrong++;
                System.out.println("run " + run + ": " + NAMES[kind] + java.util.Arrays.toString(a) + " breaks");
            }
        }
    }

    private static void count(int kind, long answer) {
        if (answer < -1000) {
            threw[kind]++;
        } else {
            ended[kind]++;
            if (kind == 8) {
                swapEnds[(int) answer]++;
            }
        }
    }

    private static int kind() {
        int[] often = {0, 1, 2, 3, 3, 4, 4, 4, 5, 5, 5, 6, 7, 7, 8, 8, 8, 8, 8, 8, 9, 9, 9, 10, 11, 11, 11, 11, 12, 13,
            14, 15, 15, 16, 16, 16, 17, 18, 18, 19, 19, 19};
        return often[draw(often.length)];
    }

    private static int row(int size) {
        return about(size == 0 ? draw(2) : draw(size));
    }

    private static int later(Model y) {
        return about(Math.min(399, y.now + draw(1 + draw(24))));
    }

    private static int peopleOf(int people) {
        int set = 1 << draw(people);
        return draw(3) == 0 ? set | 1 << draw(people) : set;
    }

    private static int[] arguments(int kind, Model y, int pace, int people) {
        switch (kind) {
            case 0:
                return new int[] {about(draw(16)), about(draw(people))};
            case 1: {
                int from = Math.min(49, y.now / 8 + draw(4));
                return new int[] {about(draw(people)), about(from), about(Math.min(49, from + draw(3)))};
            }
            case 2: {
                int from = later(y);
                return new int[] {row(y.rigs.size()), about(draw(people)), from,
                    about(Math.min(399, Math.max(0, from) + draw(12)))};
            }
            case 3:
                return new int[] {row(y.rigs.size()), about(draw(3) == 0 ? 0 : draw(9))};
            case 4:
                return new int[] {about(peopleOf(people)), later(y), about(1 + draw(4)),
                    about(draw(3) == 0 || y.rigs.isEmpty() ? -1 : draw(y.rigs.size()))};
            case 5:
                return new int[] {late(y.meets.size()), later(y)};
            case 6:
                return new int[] {late(y.meets.size())};
            case 7:
                return new int[] {late(y.meets.size()), late(y.meets.size())};
            case 8:
                return agreement(y, people);
            case 9:
                return new int[] {about(draw(2) == 0 ? 0 : draw(16)), about(draw(10)), about(1 + draw(6))};
            case 10:
                return new int[] {late(y.jobs.size()), about(draw(10))};
            case 11:
                return new int[] {about(draw(60) == 0 ? 50 : 1 + draw(pace))};
            case 13:
                return new int[] {row(y.meets.size()), about(draw(5))};
            case 14:
                return new int[] {row(y.swaps.size())};
            case 15:
                return new int[] {row(y.jobs.size()), about(draw(4))};
            case 16:
                return new int[] {row(y.jobs.size())};
            case 17:
                return new int[] {row(y.rigs.size()), later(y)};
            case 18:
                return new int[] {about(draw(people)), draw(2) == 0 ? later(y) : about(draw(400))};
            case 19:
                return new int[] {row(y.rigs.size()), about(Math.min(49, y.now / 8 + draw(3))), about(draw(18))};
            default:
                return new int[0];
        }
    }

    /** One of the last rows, as those of long ago are over. */
    private static int late(int size) {
        return about(Math.max(0, size - 1 - draw(1 + draw(8))));
    }

    /** Mostly of somebody who is asked, so that swaps come to an end. */
    private static int[] agreement(Model y, int people) {
        int swap = late(y.swaps.size());
        int person = about(draw(people));
        if (swap >= 0 && swap < y.swaps.size() && draw(8) != 0) {
            Model.Swap s = y.swaps.get(swap);
            for (int i = 0; i < 20 && ((s.one.people | s.two.people) >> Math.floorMod(person, 32) & 1) == 0; i++) {
                person = draw(10);
            }
        }
        return new int[] {person, swap};
    }

    private static long thrown(RuntimeException e) {
        if (e.getClass() == IndexOutOfBoundsException.class) {
            return -1001;
        }
        if (e.getClass() == IllegalArgumentException.class) {
            return -1002;
        }
        return e.getClass() == IllegalStateException.class ? -1003 : OTHER;
    }

    private static long ask(Rigdiary x, int kind, int[] a) {
        try {
            return answer(x, kind, a);
        } catch (RuntimeException e) {
            return thrown(e);
        }
    }

    private static long answer(Rigdiary x, int kind, int[] a) {
        switch (kind) {
            case 0: return x.machine(a[0], a[1]);
            case 1: x.leave(a[0], a[1], a[2]); return 0;
            case 2: x.lend(a[0], a[1], a[2], a[3]); return 0;
            case 3: return x.breakDown(a[0], a[1]);
            case 4: return x.meeting(a[0], a[1], a[2], a[3]);
            case 5: return x.move(a[0], a[1]) ? 1 : 0;
            case 6: x.cancel(a[0]); return 0;
            case 7: return x.swap(a[0], a[1]);
            case 8: return x.agree(a[0], a[1]);
            case 9: return x.build(a[0], a[1], a[2]);
            case 10: return x.urge(a[0], a[1]);
            case 11: return x.pass(a[0]);
            case 12: return x.slot();
            case 13: return x.meetingOf(a[0], a[1]);
            case 14: return x.swapOf(a[0]);
            case 15: return x.buildOf(a[0], a[1]);
            case 16: return x.beganAnew(a[0]);
            case 17: return x.has(a[0], a[1]);
            case 18: return x.isFree(a[0], a[1]) ? 1 : 0;
            default: return x.diary(a[0], a[1], a[2]);
        }
    }

    private static long askModel(Model y, int kind, int[] a) {
        try {
            return answerModel(y, kind, a);
        } catch (RuntimeException e) {
            return thrown(e);
        }
    }

    private static long answerModel(Model y, int kind, int[] a) {
        switch (kind) {
            case 0: return y.machine(a[0], a[1]);
            case 1: return y.leave(a[0], a[1], a[2]);
            case 2: return y.lend(a[0], a[1], a[2], a[3]);
            case 3: return y.breakDown(a[0], a[1]);
            case 4: return y.meeting(a[0], a[1], a[2], a[3]);
            case 5: return y.move(a[0], a[1]);
            case 6: return y.cancel(a[0]);
            case 7: return y.swap(a[0], a[1]);
            case 8: return y.agree(a[0], a[1]);
            case 9: return y.build(a[0], a[1], a[2]);
            case 10: return y.urge(a[0], a[1]);
            case 11: return y.pass(a[0]);
            case 12: return y.now;
            case 13: return y.meetingOf(a[0], a[1]);
            case 14: return y.swapOf(a[0]);
            case 15: return y.buildOf(a[0], a[1]);
            case 16: return y.beganAnew(a[0]);
            case 17: return y.has(a[0], a[1]);
            case 18: return y.isFree(a[0], a[1]);
            default: return y.diary(a[0], a[1], a[2]);
        }
    }
}
