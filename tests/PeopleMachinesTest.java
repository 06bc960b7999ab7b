/** Promises 1 to 5 and 19: a new object, machine, leave, lend, breakDown, has. */
public final class PeopleMachinesTest extends Ways {
    public static void main(String[] args) {
        aNewObject();
        machine();
        machineRefuses();
        leaveHinders();
        leaveRefuses();
        leaveAndMeetings();
        lend();
        lendRefuses();
        breakDown();
        breakDownQueuesAgain();
        breakDownRefuses();
        has();
        Check.end("PeopleMachinesTest");
    }

    private static void aNewObject() {
        Rigdiary x = new Rigdiary();
        Check.is(0, () -> x.slot());
        Check.refuses(Check.INDEX, () -> x.has(0, 0));
        Check.refuses(Check.INDEX, () -> x.meetingOf(0, 0));
        Check.refuses(Check.INDEX, () -> x.swapOf(0));
        Check.refuses(Check.INDEX, () -> x.buildOf(0, 0));
        Check.refuses(Check.INDEX, () -> x.beganAnew(0));
        for (int p = 0; p < 10; p++) {
            int person = p;
            Check.is(true, () -> x.isFree(person, 0));
            Check.is(true, () -> x.isFree(person, 399));
        }
    }

    private static void machine() {
        Rigdiary x = new Rigdiary();
        Check.is(0, () -> x.machine(0, 0));
        Check.is(1, () -> x.machine(15, 9));
        Check.is(2, () -> x.machine(5, 4));
        Check.is(0, () -> x.has(0, 0));
        Check.is(9, () -> x.has(1, 399));
        Check.is(4, () -> x.has(2, 17));
        x.build(4, 0, 1);
        x.pass(1);
        Check.is(1, () -> x.buildOf(0, 1));
        x.build(5, 0, 1);
        x.build(5, 0, 1);
        x.pass(1);
        Check.is(1, () -> x.buildOf(1, 1));
        Check.is(2, () -> x.buildOf(2, 1));
    }

    private static void machineRefuses() {
        Rigdiary x = new Rigdiary();
        Check.refuses(Check.INDEX, () -> x.machine(0, -1));
        Check.refuses(Check.INDEX, () -> x.machine(0, 10));
        Check.refuses(Check.INDEX, () -> x.machine(16, 10));
        Check.refuses(Check.ARGUMENT, () -> x.machine(-1, 0));
        Check.refuses(Check.ARGUMENT, () -> x.machine(16, 9));
        for (int i = 0; i < 6; i++) {
            x.machine(i, i);
        }
        Check.refuses(Check.STATE, () -> x.machine(0, 0));
        Check.refuses(Check.ARGUMENT, () -> x.machine(16, 0));
        Check.refuses(Check.INDEX, () -> x.machine(16, 10));
    }

    private static void leaveHinders() {
        Rigdiary x = new Rigdiary();
        x.machine(0, 3);
        x.leave(3, 1, 2);
        Check.is(true, () -> x.isFree(3, 7));
        Check.is(false, () -> x.isFree(3, 8));
        Check.is(false, () -> x.isFree(3, 23));
        Check.is(true, () -> x.isFree(3, 24));
        Check.is(true, () -> x.isFree(2, 8));
        x.build(0, 0, 6);
        x.pass(2);
        x.build(0, 0, 3);
        x.build(0, 0, 1);
        x.pass(5);
        Check.is(6, () -> x.buildOf(2, 2));
        x.pass(17);
        Check.is(NONE, () -> x.buildOf(1, 2));
        x.pass(1);
        Check.is(24, () -> x.buildOf(1, 2));
        x.leave(3, 3, 3);
        x.pass(2);
        Check.is(Rigdiary.BUILT, () -> x.buildOf(1, 0));
        Check.is(24, () -> x.buildOf(1, 2));
    }

    private static void leaveRefuses() {
        Rigdiary x = new Rigdiary();
        Check.refuses(Check.INDEX, () -> x.leave(-1, 0, 0));
        Check.refuses(Check.INDEX, () -> x.leave(10, -1, 0));
        Check.refuses(Check.ARGUMENT, () -> x.leave(0, -1, 0));
        Check.refuses(Check.ARGUMENT, () -> x.leave(0, 50, 50));
        Check.refuses(Check.ARGUMENT, () -> x.leave(0, 0, 50));
        Check.refuses(Check.ARGUMENT, () -> x.leave(0, 3, 2));
        Check.refuses(Check.ARGUMENT, () -> x.leave(0, Integer.MIN_VALUE, Integer.MAX_VALUE));
        x.pass(15);
        Check.refuses(Check.ARGUMENT, () -> x.leave(0, 0, 1));
        Check.does(() -> x.leave(0, 1, 1));
        x.pass(1);
        Check.refuses(Check.ARGUMENT, () -> x.leave(0, 1, 1));
        Check.does(() -> x.leave(0, 49, 49));
        Check.is(false, () -> x.isFree(0, 392));
        Check.is(false, () -> x.isFree(0, 399));
        Check.is(true, () -> x.isFree(0, 391));
        passTo(x, 400);
        Check.refuses(Check.ARGUMENT, () -> x.leave(0, 49, 49));
        Check.refuses(Check.ARGUMENT, () -> x.leave(0, 50, 50));
    }

    private static void leaveAndMeetings() {
        Rigdiary x = new Rigdiary();
        x.meeting(set(1, 2), 12, 2, NONE);
        Check.refuses(Check.STATE, () -> x.leave(1, 1, 1));
        Check.refuses(Check.STATE, () -> x.leave(2, 0, 4));
        Check.refuses(Check.ARGUMENT, () -> x.leave(2, 1, 50));
        Check.does(() -> x.leave(1, 0, 0));
        Check.does(() -> x.leave(1, 2, 3));
        Check.does(() -> x.leave(3, 1, 1));
        x.pass(13);
        Check.refuses(Check.STATE, () -> x.leave(1, 1, 1));
        x.pass(1);
        Check.does(() -> x.leave(1, 1, 1));
        x.meeting(set(5), 40, 1, NONE);
        Check.does(() -> x.leave(5, 3, 4));
        Check.does(() -> x.leave(5, 6, 49));
        Check.refuses(Check.STATE, () -> x.leave(5, 5, 5));
        Check.refuses(Check.STATE, () -> x.leave(5, 4, 5));
        Check.refuses(Check.STATE, () -> x.leave(5, 5, 6));
        x.cancel(1);
        Check.does(() -> x.leave(5, 5, 5));
    }

    private static void lend() {
        Rigdiary x = new Rigdiary();
        x.machine(0, 0);
        x.machine(0, 1);
        Check.does(() -> x.lend(0, 5, 2, 9));
        Check.is(0, () -> x.has(0, 1));
        Check.is(5, () -> x.has(0, 2));
        Check.is(5, () -> x.has(0, 9));
        Check.is(0, () -> x.has(0, 10));
        Check.is(1, () -> x.has(1, 5));
        x.lend(0, 6, 4, 4);
        x.lend(1, 8, 399, 399);
        Check.is(8, () -> x.has(1, 399));
        Check.is(1, () -> x.has(1, 398));
        Check.is(0, () -> x.has(0, 399));
        x.lend(0, 0, 5, 12);
        Check.is(5, () -> x.has(0, 3));
        Check.is(6, () -> x.has(0, 4));
        Check.is(0, () -> x.has(0, 5));
        Check.is(0, () -> x.has(0, 12));
        x.lend(0, 7, 0, 399);
        Check.is(7, () -> x.has(0, 0));
        Check.is(7, () -> x.has(0, 4));
        Check.is(7, () -> x.has(0, 399));
        x.leave(7, 0, 0);
        x.build(0, 1, 1);
        x.pass(8);
        Check.is(1, () -> x.buildOf(0, 1));
        x.leave(1, 1, 40);
        x.leave(7, 1, 40);
        x.lend(1, 8, 10, 12);
        x.build(0, 1, 3);
        x.build(0, 1, 1);
        x.pass(3);
        Check.is(10, () -> x.buildOf(1, 2));
        Check.is(Rigdiary.QUEUED, () -> x.buildOf(2, 0));
    }

    private static void lendRefuses() {
        Rigdiary x = new Rigdiary();
        Check.refuses(Check.INDEX, () -> x.lend(0, 0, 0, 0));
        x.machine(0, 0);
        Check.refuses(Check.INDEX, () -> x.lend(1, 0, 0, 0));
        Check.refuses(Check.INDEX, () -> x.lend(-1, 0, 0, 0));
        Check.refuses(Check.INDEX, () -> x.lend(0, -1, 0, 0));
        Check.refuses(Check.INDEX, () -> x.lend(0, 10, -1, 0));
        Check.refuses(Check.ARGUMENT, () -> x.lend(0, 1, -1, 0));
        Check.refuses(Check.ARGUMENT, () -> x.lend(0, 1, 400, 400));
        Check.refuses(Check.ARGUMENT, () -> x.lend(0, 1, 0, 400));
        Check.refuses(Check.ARGUMENT, () -> x.lend(0, 1, 5, 4));
        x.pass(5);
        Check.refuses(Check.ARGUMENT, () -> x.lend(0, 1, 4, 9));
        for (int i = 0; i < 20; i++) {
            Check.does(() -> x.lend(0, 1, 5, 399));
        }
        Check.refuses(Check.STATE, () -> x.lend(0, 2, 5, 5));
        Check.refuses(Check.ARGUMENT, () -> x.lend(0, 2, 4, 5));
        Check.refuses(Check.INDEX, () -> x.lend(1, 2, 4, 5));
        Rigdiary y = new Rigdiary();
        y.machine(0, 0);
        passTo(y, 400);
        Check.refuses(Check.ARGUMENT, () -> y.lend(0, 1, 399, 399));
        Check.refuses(Check.ARGUMENT, () -> y.lend(0, 1, 400, 400));
    }

    private static void breakDown() {
        Rigdiary x = new Rigdiary();
        x.machine(0, 0);
        x.pass(2);
        Check.is(NONE, () -> x.breakDown(0, 3));
        Check.is("..." + BROKEN + BROKEN + BROKEN + "..", () -> day(x, 0, 0));
        x.build(0, 0, 2);
        x.pass(2);
        Check.is(NONE, () -> x.buildOf(0, 1));
        Check.is(NONE, () -> x.breakDown(0, 2));
        Check.is(".." + BROKEN + BROKEN + "....", () -> day(x, 0, 0));
        x.pass(3);
        Check.is(6, () -> x.buildOf(0, 2));
        Check.is(NONE, () -> x.breakDown(0, 0));
        Check.is("BB......", () -> day(x, 0, 0));
        Check.is(0, () -> x.breakDown(0, 40));
        x.breakDown(0, 0);
        Check.is("........", () -> day(x, 0, 1));
        x.pass(1);
        Check.is(7, () -> x.buildOf(0, 2));
    }

    private static void breakDownQueuesAgain() {
        Rigdiary x = new Rigdiary();
        x.machine(0, 0);
        x.machine(1, 0);
        x.build(1, 3, 4);
        x.build(0, 2, 4);
        x.pass(2);
        Check.is(NONE, () -> x.breakDown(1, 0));
        Check.is(Rigdiary.RUNS, () -> x.buildOf(0, 0));
        Check.is(0, () -> x.breakDown(1, 1));
        Check.is(Rigdiary.QUEUED, () -> x.buildOf(0, 0));
        Check.is(NONE, () -> x.buildOf(0, 1));
        Check.is(NONE, () -> x.buildOf(0, 2));
        Check.is(1, () -> x.buildOf(0, 3));
        Check.is(NONE, () -> x.beganAnew(0));
        Check.is(NONE, () -> x.breakDown(1, 1));
        Check.is(Rigdiary.RUNS, () -> x.buildOf(1, 0));
        Check.is(3, () -> x.urge(0, 4));
        x.pass(2);
        Check.is(3, () -> x.buildOf(0, 2));
        Check.is(2, () -> x.buildOf(0, 3));
        x.pass(2);
        Check.is(Rigdiary.RUNS, () -> x.buildOf(0, 0));
        x.pass(1);
        Check.is(Rigdiary.BUILT, () -> x.buildOf(0, 0));
        Check.is(NONE, () -> x.breakDown(1, 1));
        Check.is(Rigdiary.BUILT, () -> x.buildOf(0, 0));
        Rigdiary y = new Rigdiary();
        y.machine(0, 0);
        y.meeting(1, 3, 2, 0);
        Check.is(NONE, () -> y.breakDown(0, 40));
        Check.is(Rigdiary.SET, () -> y.meetingOf(0, 0));
        Check.is(3, () -> y.meetingOf(0, 1));
        Check.is(0, () -> y.meetingOf(0, 3));
    }

    private static void breakDownRefuses() {
        Rigdiary x = new Rigdiary();
        Check.refuses(Check.INDEX, () -> x.breakDown(0, 0));
        x.machine(0, 0);
        x.build(0, 0, 6);
        x.pass(1);
        Check.refuses(Check.INDEX, () -> x.breakDown(1, 41));
        Check.refuses(Check.INDEX, () -> x.breakDown(-1, 1));
        Check.refuses(Check.ARGUMENT, () -> x.breakDown(0, -1));
        Check.refuses(Check.ARGUMENT, () -> x.breakDown(0, 41));
        Check.is(0, () -> x.breakDown(0, 40));
        Rigdiary y = new Rigdiary();
        y.machine(0, 0);
        passTo(y, 399);
        y.build(0, 0, 6);
        y.pass(1);
        Check.is(Rigdiary.RUNS, () -> y.buildOf(0, 0));
        Check.is(0, () -> y.breakDown(0, 1));
        Check.is(Rigdiary.QUEUED, () -> y.buildOf(0, 0));
    }

    private static void has() {
        Rigdiary x = new Rigdiary();
        Check.refuses(Check.INDEX, () -> x.has(0, 0));
        x.machine(0, 8);
        Check.refuses(Check.INDEX, () -> x.has(-1, 400));
        Check.refuses(Check.INDEX, () -> x.has(1, 0));
        Check.refuses(Check.ARGUMENT, () -> x.has(0, -1));
        Check.refuses(Check.ARGUMENT, () -> x.has(0, 400));
        x.lend(0, 4, 0, 1);
        x.pass(4);
        Check.is(4, () -> x.has(0, 1));
        Check.is(8, () -> x.has(0, 2));
        Check.is(8, () -> x.has(0, 399));
    }
}
