/** Promises 11 to 14, 17, 18 and 21: build, urge, pass, slot, buildOf, beganAnew, diary. */
public final class BuildsTest extends Ways {
    public static void main(String[] args) {
        build();
        buildRefuses();
        theMostUrgentBegins();
        urge();
        urgeRefuses();
        pass();
        passRefuses();
        whatHinders();
        atTheEnd();
        buildOf();
        beganAnew();
        beganAnewWithAllThatIsTold();
        beganAnewTwice();
        diary();
        diaryRefuses();
        Check.end("BuildsTest");
    }

    private static void build() {
        Rigdiary x = new Rigdiary();
        for (int i = 0; i < 40; i++) {
            int number = i;
            Check.is(number, () -> x.build(number % 16, number % 10, number % 6 + 1));
        }
        Check.is(Rigdiary.QUEUED, () -> x.buildOf(39, 0));
        Check.refuses(Check.STATE, () -> x.build(0, 0, 1));
        Check.refuses(Check.ARGUMENT, () -> x.build(0, 0, 0));
    }

    private static void buildRefuses() {
        Rigdiary x = new Rigdiary();
        Check.refuses(Check.ARGUMENT, () -> x.build(-1, 0, 1));
        Check.refuses(Check.ARGUMENT, () -> x.build(16, 0, 1));
        Check.refuses(Check.ARGUMENT, () -> x.build(0, -1, 1));
        Check.refuses(Check.ARGUMENT, () -> x.build(0, 10, 1));
        Check.refuses(Check.ARGUMENT, () -> x.build(0, 0, 0));
        Check.refuses(Check.ARGUMENT, () -> x.build(0, 0, 7));
        Check.is(0, () -> x.build(15, 9, 6));
    }

    private static void theMostUrgentBegins() {
        Rigdiary x = new Rigdiary();
        x.machine(3, 0);
        x.machine(5, 0);
        x.build(0, 4, 2);
        x.build(4, 6, 1);
        x.build(8, 9, 1);
        x.build(1, 4, 1);
        x.build(6, 9, 1);
        x.build(2, 4, 1);
        x.pass(1);
        Check.is(0, () -> x.buildOf(0, 1));
        Check.is(1, () -> x.buildOf(1, 1));
        Check.is(NONE, () -> x.buildOf(2, 1));
        Check.is(NONE, () -> x.buildOf(4, 1));
        x.pass(1);
        Check.is(1, () -> x.buildOf(3, 1));
        Check.is(1, () -> x.buildOf(3, 2));
        x.pass(1);
        Check.is(0, () -> x.buildOf(5, 1));
        Check.is(2, () -> x.buildOf(5, 2));
        x.machine(15, 0);
        x.pass(2);
        Check.is(3, () -> x.buildOf(2, 2));
        Check.is(2, () -> x.buildOf(2, 1));
        Check.is(4, () -> x.buildOf(4, 2));
    }

    private static void urge() {
        Rigdiary x = new Rigdiary();
        x.machine(0, 0);
        x.build(0, 3, 1);
        x.build(0, 2, 1);
        x.build(0, 1, 1);
        Check.is(1, () -> x.urge(2, 9));
        Check.is(9, () -> x.urge(2, 9));
        Check.is(3, () -> x.urge(0, 0));
        x.pass(3);
        Check.is(0, () -> x.buildOf(2, 2));
        Check.is(1, () -> x.buildOf(1, 2));
        Check.is(2, () -> x.buildOf(0, 2));
    }

    private static void urgeRefuses() {
        Rigdiary x = new Rigdiary();
        Check.refuses(Check.INDEX, () -> x.urge(0, 0));
        x.machine(0, 0);
        x.build(0, 3, 2);
        Check.refuses(Check.INDEX, () -> x.urge(1, 10));
        Check.refuses(Check.INDEX, () -> x.urge(-1, 0));
        Check.refuses(Check.ARGUMENT, () -> x.urge(0, -1));
        Check.refuses(Check.ARGUMENT, () -> x.urge(0, 10));
        x.pass(1);
        Check.refuses(Check.STATE, () -> x.urge(0, 5));
        Check.refuses(Check.ARGUMENT, () -> x.urge(0, 10));
        x.breakDown(0, 1);
        Check.is(3, () -> x.urge(0, 5));
        x.pass(3);
        Check.is(Rigdiary.BUILT, () -> x.buildOf(0, 0));
        Check.refuses(Check.STATE, () -> x.urge(0, 5));
    }

    private static void pass() {
        Rigdiary x = new Rigdiary();
        x.machine(0, 0);
        x.build(0, 0, 3);
        x.build(0, 0, 1);
        x.meeting(1, 7, 1, NONE);
        Check.is(1, () -> x.pass(1));
        Check.is(1, () -> x.slot());
        Check.is(Rigdiary.RUNS, () -> x.buildOf(0, 0));
        Check.is(2, () -> x.pass(1));
        Check.is(Rigdiary.RUNS, () -> x.buildOf(0, 0));
        Check.is(3, () -> x.pass(1));
        Check.is(Rigdiary.BUILT, () -> x.buildOf(0, 0));
        Check.is(Rigdiary.QUEUED, () -> x.buildOf(1, 0));
        Check.is(4, () -> x.pass(1));
        Check.is(Rigdiary.BUILT, () -> x.buildOf(1, 0));
        Check.is(3, () -> x.buildOf(1, 2));
        Check.is(54, () -> x.pass(50));
        Check.is(Rigdiary.OVER, () -> x.meetingOf(0, 0));
        Check.is(54, () -> x.slot());
    }

    private static void passRefuses() {
        Rigdiary x = new Rigdiary();
        Check.refuses(Check.ARGUMENT, () -> x.pass(0));
        Check.refuses(Check.ARGUMENT, () -> x.pass(-1));
        Check.refuses(Check.ARGUMENT, () -> x.pass(51));
        Check.refuses(Check.ARGUMENT, () -> x.pass(Integer.MAX_VALUE));
        passTo(x, 390);
        Check.refuses(Check.STATE, () -> x.pass(11));
        Check.refuses(Check.ARGUMENT, () -> x.pass(51));
        Check.is(400, () -> x.pass(10));
        Check.refuses(Check.STATE, () -> x.pass(1));
        Check.refuses(Check.ARGUMENT, () -> x.pass(0));
        Check.is(400, () -> x.slot());
    }

    private static void whatHinders() {
        Rigdiary x = new Rigdiary();
        x.machine(0, 0);
        x.meeting(set(1), 4, 1, 0);
        x.build(0, 9, 5);
        x.build(0, 1, 4);
        x.pass(1);
        Check.is(0, () -> x.buildOf(1, 2));
        Check.is(NONE, () -> x.buildOf(0, 2));
        x.pass(4);
        Check.is(NONE, () -> x.buildOf(0, 2));
        x.breakDown(0, 2);
        x.pass(2);
        Check.is(NONE, () -> x.buildOf(0, 2));
        x.leave(0, 1, 1);
        x.pass(9);
        Check.is(NONE, () -> x.buildOf(0, 2));
        x.lend(0, 3, 20, 399);
        x.leave(3, 2, 2);
        x.pass(8);
        Check.is(NONE, () -> x.buildOf(0, 2));
        x.pass(1);
        Check.is(24, () -> x.buildOf(0, 2));
        x.meeting(set(1), 30, 1, 0);
        x.breakDown(0, 0);
        x.pass(4);
        Check.is(Rigdiary.BUILT, () -> x.buildOf(0, 0));
        Check.is(1, () -> x.buildOf(0, 3));
    }

    private static void atTheEnd() {
        Rigdiary x = new Rigdiary();
        x.machine(0, 0);
        x.machine(1, 1);
        x.machine(2, 2);
        passTo(x, 398);
        x.breakDown(0, 2);
        x.leave(1, 49, 49);
        x.build(0, 0, 6);
        x.build(2, 0, 2);
        x.pass(1);
        Check.is(2, () -> x.buildOf(0, 1));
        Check.is(NONE, () -> x.buildOf(1, 1));
        x.breakDown(0, 0);
        x.build(0, 0, 2);
        x.pass(1);
        Check.is(0, () -> x.buildOf(2, 1));
        Check.is(399, () -> x.buildOf(2, 2));
        Check.is(Rigdiary.RUNS, () -> x.buildOf(0, 0));
        Check.is(Rigdiary.RUNS, () -> x.buildOf(2, 0));
        Check.is(398, () -> x.beganAnew(0));
        Check.is(0, () -> x.breakDown(2, 40));
        Check.is(NONE, () -> x.beganAnew(0));
        Check.is("B.......", () -> day(x, 0, 49));
        Check.is("........", () -> day(x, 2, 49));
    }

    private static void buildOf() {
        Rigdiary x = new Rigdiary();
        Check.refuses(Check.INDEX, () -> x.buildOf(0, 9));
        x.machine(0, 0);
        x.machine(1, 0);
        x.build(1, 0, 2);
        Check.is(Rigdiary.QUEUED, () -> x.buildOf(0, 0));
        Check.is(NONE, () -> x.buildOf(0, 1));
        Check.is(NONE, () -> x.buildOf(0, 2));
        Check.is(0, () -> x.buildOf(0, 3));
        x.pass(1);
        Check.is(Rigdiary.RUNS, () -> x.buildOf(0, 0));
        Check.is(1, () -> x.buildOf(0, 1));
        Check.is(0, () -> x.buildOf(0, 2));
        Check.is(1, () -> x.buildOf(0, 3));
        x.breakDown(1, 1);
        Check.is(1, () -> x.buildOf(0, 3));
        x.pass(5);
        Check.is(Rigdiary.BUILT, () -> x.buildOf(0, 0));
        Check.is(1, () -> x.buildOf(0, 1));
        Check.is(2, () -> x.buildOf(0, 2));
        Check.is(2, () -> x.buildOf(0, 3));
        Check.refuses(Check.INDEX, () -> x.buildOf(1, 0));
        Check.refuses(Check.INDEX, () -> x.buildOf(-1, 4));
        Check.refuses(Check.ARGUMENT, () -> x.buildOf(0, -1));
        Check.refuses(Check.ARGUMENT, () -> x.buildOf(0, 4));
    }

    private static void beganAnew() {
        Rigdiary x = new Rigdiary();
        Check.refuses(Check.INDEX, () -> x.beganAnew(0));
        x.machine(0, 0);
        x.build(0, 0, 2);
        Check.is(NONE, () -> x.beganAnew(0));
        x.pass(1);
        Check.is(0, () -> x.beganAnew(0));
        Check.is(0, () -> x.beganAnew(0));
        x.pass(9);
        Check.is(0, () -> x.beganAnew(0));
        Check.is(10, () -> x.slot());
        Check.refuses(Check.INDEX, () -> x.beganAnew(1));
        Check.refuses(Check.INDEX, () -> x.beganAnew(-1));
    }

    /** What was told later does not change what began ahead of it. */
    private static void beganAnewWithAllThatIsTold() {
        Rigdiary x = new Rigdiary();
        x.machine(0, 0);
        x.meeting(set(1), 2, 1, 0);
        x.meeting(set(2), 20, 1, 0);
        x.meeting(set(3), 3, 1, 0);
        x.build(0, 0, 3);
        x.build(0, 0, 2);
        x.build(0, 0, 6);
        x.pass(1);
        x.urge(0, 9);
        x.machine(0, 4);
        x.leave(4, 0, 0);
        x.lend(1, 5, 3, 6);
        x.cancel(2);
        x.swap(0, 1);
        x.agree(1, 0);
        x.agree(2, 0);
        x.pass(4);
        Check.is(0, () -> x.beganAnew(1));
        Check.is(3, () -> x.beganAnew(0));
        Check.is(NONE, () -> x.beganAnew(2));
        x.move(0, 30);
        x.pass(2);
        Check.is(6, () -> x.beganAnew(2));
        x.breakDown(0, 3);
        Check.is(NONE, () -> x.beganAnew(2));
        x.pass(3);
        Check.is(8, () -> x.beganAnew(2));
        x.breakDown(0, 0);
        Check.is(8, () -> x.beganAnew(2));
        for (int i = 0; i < 3; i++) {
            int build = i;
            Check.is(x.buildOf(build, 2), () -> x.beganAnew(build));
        }
        Check.is(2, () -> x.buildOf(2, 3));
    }

    /** Each planning starts from nothing: what an earlier one knew at its end is not known at the next one's start. */
    private static void beganAnewTwice() {
        Rigdiary x = new Rigdiary();
        x.machine(0, 0);
        x.build(0, 0, 4);
        x.pass(6);
        Check.is(0, () -> x.beganAnew(0));
        x.meeting(set(9), 6, 1, 0);
        x.leave(0, 0, 3);
        x.lend(0, 5, 8, 40);
        x.leave(5, 1, 1);
        x.breakDown(0, 20);
        x.build(0, 0, 4);
        Check.is(0, () -> x.beganAnew(0));
        Check.is(0, () -> x.beganAnew(0));
        x.lend(0, 6, 27, 30);
        x.pass(24);
        Check.is(26, () -> x.buildOf(1, 2));
        Check.is(26, () -> x.beganAnew(1));
        Check.is(26, () -> x.beganAnew(1));
        x.lend(0, 7, 30, 45);
        x.leave(7, 4, 5);
        x.build(0, 0, 3);
        x.pass(16);
        Check.is(NONE, () -> x.beganAnew(2));
        x.leave(0, 6, 6);
        Check.is(26, () -> x.beganAnew(1));
        x.pass(10);
        Check.is(NONE, () -> x.beganAnew(2));
        x.pass(1);
        Check.is(56, () -> x.beganAnew(2));
        Check.is(56, () -> x.buildOf(2, 2));
        Rigdiary y = new Rigdiary();
        y.machine(0, 0);
        y.leave(3, 0, 0);
        y.build(0, 0, 6);
        y.pass(2);
        y.lend(0, 3, 3, 5);
        Check.is(0, () -> y.beganAnew(0));
        Check.is(0, () -> y.beganAnew(0));
    }

    private static void diary() {
        Rigdiary x = new Rigdiary();
        x.machine(0, 0);
        x.machine(0, 0);
        Check.is("........", () -> day(x, 0, 0));
        x.meeting(1, 5, 2, 0);
        x.build(0, 0, 3);
        x.pass(2);
        Check.is(".MM..BBB", () -> day(x, 0, 0));
        Check.is("........", () -> day(x, 1, 0));
        x.breakDown(0, 9);
        Check.is(BROKEN + "MM" + BROKEN + BROKEN + BROKEN + "..", () -> day(x, 0, 0));
        Check.is("....." + BROKEN + BROKEN + BROKEN, () -> day(x, 0, 1));
        Check.is((char) 0xD83D, () -> x.diary(0, 0, 0));
        Check.is((char) 0xDD27, () -> x.diary(0, 0, 1));
        Check.is('M', () -> x.diary(0, 0, 2));
        Check.is('.', () -> x.diary(0, 0, 11));
        Check.is((char) 0, () -> x.diary(0, 0, 12));
        Check.is((char) 0, () -> x.diary(0, 0, Integer.MAX_VALUE));
        x.pass(1);
        Check.is(BROKEN + "MM" + BROKEN + BROKEN + BROKEN + "..", () -> day(x, 0, 0));
        Check.is("...BBB..", () -> day(x, 1, 0));
        x.breakDown(0, 0);
        Check.is(".MM.....", () -> day(x, 0, 0));
        x.pass(3);
        Check.is(".MM.....", () -> day(x, 0, 0));
        x.pass(1);
        Check.is("........", () -> day(x, 0, 0));
        x.build(0, 0, 6);
        x.pass(1);
        Check.is("B.......", () -> day(x, 0, 0));
        Check.is("...BBBBB", () -> day(x, 0, 1));
        x.pass(5);
        Check.is("........", () -> day(x, 0, 1));
    }

    private static void diaryRefuses() {
        Rigdiary x = new Rigdiary();
        Check.refuses(Check.INDEX, () -> x.diary(0, 0, 0));
        x.machine(0, 0);
        Check.refuses(Check.INDEX, () -> x.diary(1, 50, 0));
        Check.refuses(Check.INDEX, () -> x.diary(-1, 0, 0));
        Check.refuses(Check.INDEX, () -> x.diary(0, 0, -1));
        Check.refuses(Check.INDEX, () -> x.diary(0, 50, -1));
        Check.refuses(Check.ARGUMENT, () -> x.diary(0, 50, 0));
        Check.refuses(Check.ARGUMENT, () -> x.diary(0, -1, 0));
        Check.is('.', () -> x.diary(0, 49, 7));
        Check.is((char) 0, () -> x.diary(0, 49, 8));
    }
}
