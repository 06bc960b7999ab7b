/** Promises 6 to 10, 15, 16 and 20: meeting, move, cancel, swap, agree, meetingOf, swapOf, isFree. */
public final class MeetingsTest extends Ways {
    public static void main(String[] args) {
        meeting();
        meetingNeedsItsPeople();
        meetingNeedsItsMachine();
        meetingRefuses();
        thirtyMeetings();
        move();
        moveWhereItCannotBe();
        moveRefuses();
        cancel();
        meetingOf();
        swap();
        swapRefuses();
        agree();
        agreeRefuses();
        swapsWhereOneCannotBe();
        swapsOfNeighbours();
        swapsThatHoldNoMore();
        swapsThatOtherSwapsMoved();
        swapsThatTheCallsChanged();
        isFree();
        Check.end("MeetingsTest");
    }

    private static void meeting() {
        Rigdiary x = new Rigdiary();
        x.machine(0, 0);
        Check.is(0, () -> x.meeting(1023, 0, 4, 0));
        Check.is(1, () -> x.meeting(1, 4, 4, NONE));
        Check.is(2, () -> x.meeting(512, 399, 1, 0));
        Check.is("....MMMM", () -> day(x, 0, 0));
        Check.is("M.......", () -> day(x, 0, 49));
        x.pass(4);
        Check.is(Rigdiary.OVER, () -> x.meetingOf(0, 0));
        Check.is(3, () -> x.meeting(2, 4, 1, 0));
        passTo(x, 399);
        Check.is(Rigdiary.SET, () -> x.meetingOf(2, 0));
        Check.is(4, () -> x.meeting(1, 399, 1, NONE));
        x.pass(1);
        Check.is(Rigdiary.OVER, () -> x.meetingOf(2, 0));
    }

    private static void meetingNeedsItsPeople() {
        Rigdiary x = new Rigdiary();
        x.meeting(set(0, 1), 10, 3, NONE);
        Check.refuses(Check.STATE, () -> x.meeting(set(1, 2), 9, 2, NONE));
        Check.refuses(Check.STATE, () -> x.meeting(set(0), 12, 1, NONE));
        Check.refuses(Check.STATE, () -> x.meeting(set(0), 9, 4, NONE));
        Check.is(1, () -> x.meeting(set(0), 13, 1, NONE));
        Check.is(2, () -> x.meeting(set(0), 9, 1, NONE));
        Check.is(3, () -> x.meeting(set(2, 3), 10, 3, NONE));
        x.leave(5, 2, 2);
        Check.refuses(Check.STATE, () -> x.meeting(set(4, 5), 16, 1, NONE));
        Check.refuses(Check.STATE, () -> x.meeting(set(5), 20, 4, NONE));
        Check.is(4, () -> x.meeting(set(4), 16, 1, NONE));
        Check.is(5, () -> x.meeting(set(5), 24, 1, NONE));
        x.cancel(0);
        Check.is(6, () -> x.meeting(set(0, 1), 11, 1, NONE));
    }

    private static void meetingNeedsItsMachine() {
        Rigdiary x = new Rigdiary();
        x.machine(0, 0);
        x.machine(0, 0);
        x.meeting(set(0), 10, 2, 0);
        Check.refuses(Check.STATE, () -> x.meeting(set(1), 11, 1, 0));
        Check.is(1, () -> x.meeting(set(1), 11, 1, 1));
        Check.is(2, () -> x.meeting(set(2), 11, 1, NONE));
        Check.is(3, () -> x.meeting(set(3), 12, 1, 0));
        x.build(0, 0, 3);
        x.pass(1);
        Check.refuses(Check.STATE, () -> x.meeting(set(4), 2, 1, 0));
        Check.refuses(Check.STATE, () -> x.meeting(set(4), 1, 4, 0));
        Check.is(4, () -> x.meeting(set(4), 3, 1, 0));
        Check.is(5, () -> x.meeting(set(5), 2, 1, 1));
        x.breakDown(1, 5);
        Check.refuses(Check.STATE, () -> x.meeting(set(6), 5, 1, 1));
        Check.refuses(Check.STATE, () -> x.meeting(set(6), 3, 4, 1));
        Check.is(6, () -> x.meeting(set(6), 6, 1, 1));
        x.breakDown(1, 0);
        Check.is(7, () -> x.meeting(set(6), 5, 1, 1));
        Check.is(0, () -> x.breakDown(0, 1));
        Check.is(8, () -> x.meeting(set(9), 2, 1, 0));
    }

    private static void meetingRefuses() {
        Rigdiary x = new Rigdiary();
        Check.refuses(Check.INDEX, () -> x.meeting(1, 0, 1, 0));
        x.machine(0, 0);
        Check.refuses(Check.INDEX, () -> x.meeting(0, 0, 1, 1));
        Check.refuses(Check.INDEX, () -> x.meeting(1, 0, 1, -2));
        Check.refuses(Check.ARGUMENT, () -> x.meeting(0, 0, 1, 0));
        Check.refuses(Check.ARGUMENT, () -> x.meeting(1024, 0, 1, NONE));
        Check.refuses(Check.ARGUMENT, () -> x.meeting(-1, 0, 1, NONE));
        Check.refuses(Check.ARGUMENT, () -> x.meeting(1, -1, 1, NONE));
        Check.refuses(Check.ARGUMENT, () -> x.meeting(1, 400, 1, NONE));
        Check.refuses(Check.ARGUMENT, () -> x.meeting(1, 0, 0, NONE));
        Check.refuses(Check.ARGUMENT, () -> x.meeting(1, 0, 5, NONE));
        Check.refuses(Check.ARGUMENT, () -> x.meeting(1, 7, 2, NONE));
        Check.refuses(Check.ARGUMENT, () -> x.meeting(1, 5, 4, NONE));
        Check.refuses(Check.ARGUMENT, () -> x.meeting(1, 399, 2, NONE));
        Check.refuses(Check.ARGUMENT, () -> x.meeting(1, Integer.MAX_VALUE, Integer.MAX_VALUE, NONE));
        x.pass(3);
        Check.refuses(Check.ARGUMENT, () -> x.meeting(1, 2, 2, NONE));
        Check.is(0, () -> x.meeting(1, 3, 1, NONE));
        Check.refuses(Check.ARGUMENT, () -> x.meeting(1, 3, 0, NONE));
        passTo(x, 400);
        Check.refuses(Check.ARGUMENT, () -> x.meeting(1, 400, 1, NONE));
        Check.refuses(Check.ARGUMENT, () -> x.meeting(1, 399, 1, NONE));
    }

    private static void thirtyMeetings() {
        Rigdiary x = new Rigdiary();
        for (int i = 0; i < 30; i++) {
            int number = i;
            Check.is(number, () -> x.meeting(1, 8 * number, 1, NONE));
        }
        Check.refuses(Check.STATE, () -> x.meeting(1, 300, 1, NONE));
        x.cancel(29);
        Check.refuses(Check.STATE, () -> x.meeting(1, 300, 1, NONE));
        Check.refuses(Check.ARGUMENT, () -> x.meeting(1, 303, 2, NONE));
        Check.refuses(Check.INDEX, () -> x.meeting(1, 303, 2, 0));
    }

    private static void move() {
        Rigdiary x = new Rigdiary();
        x.machine(0, 0);
        x.meeting(set(0, 1), 3, 2, 0);
        Check.is(true, () -> x.move(0, 4));
        Check.is(4, () -> x.meetingOf(0, 1));
        Check.is(true, () -> x.move(0, 4));
        Check.is(true, () -> x.move(0, 398));
        Check.is("MM......", () -> day(x, 0, 49));
        Check.is("........", () -> day(x, 0, 0));
        Check.is(true, () -> x.isFree(0, 4));
        Check.is(true, () -> x.move(0, 0));
        x.meeting(set(4), 3, 1, NONE);
        Check.is(true, () -> x.move(1, 399));
        Check.is(399, () -> x.meetingOf(1, 1));
        x.build(0, 9, 1);
        x.build(0, 0, 3);
        Check.is(true, () -> x.move(0, 8));
        x.pass(1);
        Check.is(0, () -> x.buildOf(0, 2));
        Check.is(true, () -> x.move(0, 1));
        x.pass(2);
        Check.is(NONE, () -> x.buildOf(1, 2));
        Check.refuses(Check.STATE, () -> x.move(0, 8));
        x.pass(1);
        Check.is(3, () -> x.buildOf(1, 2));
    }

    private static void moveWhereItCannotBe() {
        Rigdiary x = new Rigdiary();
        x.machine(0, 0);
        x.machine(0, 1);
        x.meeting(set(0, 1), 3, 2, 0);
        x.meeting(set(2), 8, 3, 0);
        x.meeting(set(1), 16, 3, NONE);
        x.leave(0, 3, 3);
        Check.is(false, () -> x.move(0, 9));
        Check.is(false, () -> x.move(0, 10));
        Check.is(true, () -> x.move(0, 11));
        Check.is(false, () -> x.move(0, 18));
        Check.is(false, () -> x.move(0, 24));
        Check.is(11, () -> x.meetingOf(0, 1));
        Check.is(true, () -> x.move(0, 0));
        x.breakDown(0, 2);
        Check.is(false, () -> x.move(0, 0));
        Check.is(false, () -> x.move(0, 1));
        Check.is(true, () -> x.move(0, 2));
        x.breakDown(0, 0);
        x.build(0, 0, 2);
        x.pass(1);
        Check.is(0, () -> x.buildOf(0, 1));
        Check.is(false, () -> x.move(0, 1));
        Check.is(2, () -> x.meetingOf(0, 1));
        Check.is(true, () -> x.move(0, 3));
    }

    private static void moveRefuses() {
        Rigdiary x = new Rigdiary();
        Check.refuses(Check.INDEX, () -> x.move(0, 0));
        x.meeting(1, 8, 3, NONE);
        x.meeting(1, 30, 2, NONE);
        x.pass(2);
        Check.refuses(Check.INDEX, () -> x.move(2, 400));
        Check.refuses(Check.INDEX, () -> x.move(-1, 400));
        Check.refuses(Check.ARGUMENT, () -> x.move(0, 1));
        Check.refuses(Check.ARGUMENT, () -> x.move(0, -1));
        Check.refuses(Check.ARGUMENT, () -> x.move(0, 400));
        Check.refuses(Check.ARGUMENT, () -> x.move(0, 14));
        Check.refuses(Check.ARGUMENT, () -> x.move(0, 398));
        Check.refuses(Check.ARGUMENT, () -> x.move(0, Integer.MAX_VALUE));
        x.cancel(1);
        Check.refuses(Check.STATE, () -> x.move(1, 40));
        Check.refuses(Check.ARGUMENT, () -> x.move(1, 39));
        x.pass(6);
        Check.is(true, () -> x.move(0, 8));
        x.pass(1);
        Check.refuses(Check.STATE, () -> x.move(0, 9));
        Check.refuses(Check.ARGUMENT, () -> x.move(0, 8));
        x.pass(2);
        Check.refuses(Check.STATE, () -> x.move(0, 16));
    }

    private static void cancel() {
        Rigdiary x = new Rigdiary();
        Check.refuses(Check.INDEX, () -> x.cancel(0));
        x.machine(0, 0);
        x.meeting(set(0), 1, 2, 0);
        x.meeting(set(1), 3, 2, 0);
        Check.refuses(Check.INDEX, () -> x.cancel(2));
        Check.refuses(Check.INDEX, () -> x.cancel(-1));
        x.pass(1);
        Check.does(() -> x.cancel(0));
        Check.is(Rigdiary.CANCELLED, () -> x.meetingOf(0, 0));
        Check.is("...MM...", () -> day(x, 0, 0));
        Check.refuses(Check.STATE, () -> x.cancel(0));
        x.pass(3);
        Check.refuses(Check.STATE, () -> x.cancel(1));
        x.pass(1);
        Check.is(Rigdiary.OVER, () -> x.meetingOf(1, 0));
        Check.is(Rigdiary.CANCELLED, () -> x.meetingOf(0, 0));
        Check.refuses(Check.STATE, () -> x.cancel(1));
        x.meeting(set(0), 6, 2, 0);
        x.build(0, 0, 3);
        x.pass(1);
        Check.is(NONE, () -> x.buildOf(0, 2));
        x.cancel(2);
        x.pass(1);
        Check.is(6, () -> x.buildOf(0, 2));
    }

    private static void meetingOf() {
        Rigdiary x = new Rigdiary();
        Check.refuses(Check.INDEX, () -> x.meetingOf(0, 9));
        x.machine(0, 0);
        x.machine(0, 0);
        x.meeting(set(0, 9), 5, 3, 1);
        x.meeting(set(4), 17, 2, NONE);
        Check.is(Rigdiary.SET, () -> x.meetingOf(0, 0));
        Check.is(5, () -> x.meetingOf(0, 1));
        Check.is(3, () -> x.meetingOf(0, 2));
        Check.is(1, () -> x.meetingOf(0, 3));
        Check.is(set(0, 9), () -> x.meetingOf(0, 4));
        Check.is(17, () -> x.meetingOf(1, 1));
        Check.is(2, () -> x.meetingOf(1, 2));
        Check.is(NONE, () -> x.meetingOf(1, 3));
        Check.is(set(4), () -> x.meetingOf(1, 4));
        Check.refuses(Check.INDEX, () -> x.meetingOf(2, 0));
        Check.refuses(Check.INDEX, () -> x.meetingOf(-1, 5));
        Check.refuses(Check.ARGUMENT, () -> x.meetingOf(0, -1));
        Check.refuses(Check.ARGUMENT, () -> x.meetingOf(0, 5));
        x.pass(7);
        Check.is(Rigdiary.SET, () -> x.meetingOf(0, 0));
        x.pass(1);
        Check.is(Rigdiary.OVER, () -> x.meetingOf(0, 0));
        Check.is(5, () -> x.meetingOf(0, 1));
    }

    private static void swap() {
        Rigdiary x = new Rigdiary();
        x.meeting(set(0), 1, 1, NONE);
        x.meeting(set(0), 2, 1, NONE);
        for (int i = 0; i < 20; i++) {
            int number = i;
            Check.is(number, () -> x.swap(number % 2, 1 - number % 2));
            Check.is(Rigdiary.OPEN, () -> x.swapOf(number));
        }
        Check.refuses(Check.STATE, () -> x.swap(0, 1));
        Check.refuses(Check.ARGUMENT, () -> x.swap(0, 0));
        Check.refuses(Check.INDEX, () -> x.swap(2, 2));
        Check.is(1, () -> x.meetingOf(0, 1));
    }

    private static void swapRefuses() {
        Rigdiary x = new Rigdiary();
        Check.refuses(Check.INDEX, () -> x.swap(0, 1));
        x.meeting(set(0), 1, 2, NONE);
        x.meeting(set(1), 9, 1, NONE);
        x.meeting(set(2), 9, 1, NONE);
        x.cancel(2);
        Check.refuses(Check.INDEX, () -> x.swap(0, 3));
        Check.refuses(Check.INDEX, () -> x.swap(3, 0));
        Check.refuses(Check.INDEX, () -> x.swap(-1, -1));
        Check.refuses(Check.ARGUMENT, () -> x.swap(1, 1));
        Check.refuses(Check.ARGUMENT, () -> x.swap(2, 2));
        Check.refuses(Check.STATE, () -> x.swap(1, 2));
        Check.refuses(Check.STATE, () -> x.swap(2, 1));
        Check.refuses(Check.INDEX, () -> x.swapOf(0));
        x.pass(1);
        Check.is(0, () -> x.swap(0, 1));
        x.pass(1);
        Check.refuses(Check.STATE, () -> x.swap(0, 1));
        Check.refuses(Check.STATE, () -> x.swap(1, 0));
        x.pass(1);
        Check.refuses(Check.STATE, () -> x.swap(1, 0));
        Check.refuses(Check.INDEX, () -> x.swapOf(1));
        Check.refuses(Check.INDEX, () -> x.swapOf(-1));
        Check.is(Rigdiary.OPEN, () -> x.swapOf(0));
    }

    private static void agree() {
        Rigdiary x = new Rigdiary();
        x.machine(0, 0);
        x.machine(0, 0);
        x.meeting(set(0, 1), 1, 2, 0);
        x.meeting(set(1, 2), 12, 4, 1);
        x.swap(0, 1);
        Check.is(Rigdiary.OPEN, () -> x.agree(1, 0));
        Check.is(Rigdiary.OPEN, () -> x.agree(1, 0));
        Check.is(Rigdiary.OPEN, () -> x.agree(2, 0));
        Check.is(1, () -> x.meetingOf(0, 1));
        Check.is(Rigdiary.DONE, () -> x.agree(0, 0));
        Check.is(Rigdiary.DONE, () -> x.swapOf(0));
        Check.is(12, () -> x.meetingOf(0, 1));
        Check.is(1, () -> x.meetingOf(1, 1));
        Check.is(2, () -> x.meetingOf(0, 2));
        Check.is(4, () -> x.meetingOf(1, 2));
        Check.is(0, () -> x.meetingOf(0, 3));
        Check.is(1, () -> x.meetingOf(1, 3));
        Check.is(set(0, 1), () -> x.meetingOf(0, 4));
        Check.is(set(1, 2), () -> x.meetingOf(1, 4));
        Check.is("........", () -> day(x, 0, 0));
        Check.is("..MM....", () -> day(x, 0, 1));
        Check.is("...MMMM.", () -> day(x, 1, 0));
        Check.refuses(Check.STATE, () -> x.agree(0, 0));
    }

    private static void agreeRefuses() {
        Rigdiary x = new Rigdiary();
        Check.refuses(Check.INDEX, () -> x.agree(0, 0));
        x.meeting(set(0), 1, 2, NONE);
        x.meeting(set(1), 9, 1, NONE);
        x.swap(0, 1);
        Check.refuses(Check.INDEX, () -> x.agree(-1, 0));
        Check.refuses(Check.INDEX, () -> x.agree(10, 0));
        Check.refuses(Check.INDEX, () -> x.agree(0, 1));
        Check.refuses(Check.INDEX, () -> x.agree(0, -1));
        Check.refuses(Check.STATE, () -> x.agree(2, 0));
        x.cancel(1);
        Check.refuses(Check.STATE, () -> x.agree(9, 0));
        Check.is(Rigdiary.OPEN, () -> x.swapOf(0));
        Check.is(Rigdiary.REFUSED, () -> x.agree(0, 0));
        Check.refuses(Check.STATE, () -> x.agree(1, 0));
        Check.is(Rigdiary.REFUSED, () -> x.swapOf(0));
    }

    private static void swapsWhereOneCannotBe() {
        Rigdiary x = new Rigdiary();
        x.machine(0, 0);
        x.meeting(set(0), 1, 1, 0);
        x.meeting(set(1), 15, 1, NONE);
        x.meeting(set(1), 1, 1, NONE);
        agreed(x, Rigdiary.REFUSED, 0, 1, 0, 1);
        Check.is(1, () -> x.meetingOf(0, 1));
        Check.is(15, () -> x.meetingOf(1, 1));
        x.cancel(2);
        x.meeting(set(2), 15, 1, 0);
        agreed(x, Rigdiary.REFUSED, 0, 1, 0, 1);
        x.cancel(3);
        x.leave(0, 1, 1);
        agreed(x, Rigdiary.REFUSED, 0, 1, 0, 1);
        x.meeting(set(3), 2, 2, NONE);
        agreed(x, Rigdiary.REFUSED, 4, 1, 3, 1);
        x.meeting(set(4), 17, 2, 0);
        x.breakDown(0, 3);
        agreed(x, Rigdiary.REFUSED, 4, 5, 3, 4);
        x.breakDown(0, 2);
        agreed(x, Rigdiary.DONE, 4, 5, 3, 4);
        Check.is(17, () -> x.meetingOf(4, 1));
        Check.is(2, () -> x.meetingOf(5, 1));
        x.meeting(set(5), 20, 1, NONE);
        x.meeting(set(6), 398, 2, NONE);
        x.meeting(set(7), 399, 1, NONE);
        agreed(x, Rigdiary.REFUSED, 7, 8, 6, 7);
        agreed(x, Rigdiary.REFUSED, 8, 7, 6, 7);
        agreed(x, Rigdiary.DONE, 8, 6, 7, 5);
    }

    private static void swapsOfNeighbours() {
        Rigdiary x = new Rigdiary();
        x.machine(0, 0);
        x.meeting(set(0), 8, 2, NONE);
        x.meeting(set(0), 10, 2, NONE);
        agreed(x, Rigdiary.DONE, 0, 1, 0, 0);
        Check.is(10, () -> x.meetingOf(0, 1));
        Check.is(8, () -> x.meetingOf(1, 1));
        x.meeting(set(1), 16, 1, 0);
        x.meeting(set(2), 18, 3, 0);
        agreed(x, Rigdiary.REFUSED, 2, 3, 1, 2);
        x.meeting(set(3), 32, 1, NONE);
        x.meeting(set(3, 4), 33, 2, NONE);
        agreed(x, Rigdiary.REFUSED, 4, 5, 3, 4);
        x.meeting(set(5), 40, 1, NONE);
        x.meeting(set(6), 41, 2, NONE);
        agreed(x, Rigdiary.DONE, 6, 7, 5, 6);
        x.meeting(set(7), 48, 1, NONE);
        x.meeting(set(8), 49, 2, 0);
        agreed(x, Rigdiary.DONE, 8, 9, 7, 8);
        x.meeting(set(9), 56, 1, NONE);
        x.meeting(set(7), 56, 3, NONE);
        agreed(x, Rigdiary.DONE, 10, 11, 7, 9);
        Check.is(56, () -> x.meetingOf(10, 1));
    }

    private static void swapsThatHoldNoMore() {
        Rigdiary x = new Rigdiary();
        x.meeting(set(0), 5, 2, NONE);
        x.meeting(set(1), 9, 1, NONE);
        x.meeting(set(2), 17, 1, NONE);
        Check.is(0, () -> x.swap(0, 1));
        x.move(0, 5);
        Check.is(Rigdiary.OPEN, () -> x.swapOf(0));
        Check.is(Rigdiary.REFUSED, () -> x.agree(1, 0));
        Check.is(1, () -> x.swap(0, 1));
        Check.is(Rigdiary.OPEN, () -> x.agree(0, 1));
        x.move(1, 10);
        Check.is(Rigdiary.REFUSED, () -> x.agree(1, 1));
        Check.is(2, () -> x.swap(0, 1));
        x.leave(1, 2, 2);
        Check.is(false, () -> x.move(1, 16));
        Check.is(Rigdiary.OPEN, () -> x.agree(0, 2));
        Check.is(3, () -> x.swap(1, 2));
        Check.is(4, () -> x.swap(0, 2));
        Check.is(5, () -> x.swap(2, 0));
        agreedTo(x, Rigdiary.DONE, 4, 0, 2);
        Check.is(Rigdiary.OPEN, () -> x.swapOf(5));
        Check.is(Rigdiary.REFUSED, () -> x.agree(2, 5));
        Check.is(Rigdiary.REFUSED, () -> x.agree(1, 3));
        Check.is(Rigdiary.REFUSED, () -> x.agree(1, 2));
        Check.is(6, () -> x.swap(1, 2));
        x.pass(5);
        Check.is(Rigdiary.OPEN, () -> x.agree(2, 6));
        x.pass(1);
        Check.is(Rigdiary.OVER, () -> x.meetingOf(2, 0));
        Check.is(Rigdiary.REFUSED, () -> x.agree(2, 6));
        Check.is(7, () -> x.swap(0, 1));
        x.cancel(0);
        Check.is(Rigdiary.REFUSED, () -> x.agree(1, 7));
        Check.is(10, () -> x.meetingOf(1, 1));
    }

    /** A swap that is DONE moves both of its meetings, also to the slot that they have. */
    private static void swapsThatOtherSwapsMoved() {
        Rigdiary x = new Rigdiary();
        x.meeting(set(0), 8, 1, NONE);
        x.meeting(set(1), 8, 1, NONE);
        x.meeting(set(2), 16, 1, NONE);
        x.swap(0, 2);
        x.swap(2, 1);
        x.swap(1, 0);
        x.swap(0, 1);
        agreedTo(x, Rigdiary.DONE, 2, 0, 1);
        Check.is(8, () -> x.meetingOf(0, 1));
        Check.is(8, () -> x.meetingOf(1, 1));
        Check.is(Rigdiary.REFUSED, () -> x.agree(2, 0));
        Check.is(Rigdiary.REFUSED, () -> x.agree(2, 1));
        Check.is(Rigdiary.REFUSED, () -> x.agree(0, 3));
        agreed(x, Rigdiary.DONE, 0, 1, 1, 0);
        agreed(x, Rigdiary.DONE, 0, 2, 2, 0);
        Check.is(16, () -> x.meetingOf(0, 1));
        Check.is(8, () -> x.meetingOf(2, 1));
    }

    private static void swapsThatTheCallsChanged() {
        Rigdiary x = new Rigdiary();
        x.machine(0, 0);
        x.meeting(set(0), 1, 3, NONE);
        x.meeting(set(1), 20, 1, 0);
        Check.is(0, () -> x.swap(0, 1));
        x.pass(2);
        Check.is(Rigdiary.SET, () -> x.meetingOf(0, 0));
        Check.is(Rigdiary.REFUSED, () -> x.agree(0, 0));
        x.meeting(set(2), 5, 1, NONE);
        x.build(0, 0, 4);
        x.pass(1);
        Check.is(Rigdiary.RUNS, () -> x.buildOf(0, 0));
        agreed(x, Rigdiary.REFUSED, 1, 2, 1, 2);
        x.move(2, 6);
        agreed(x, Rigdiary.DONE, 1, 2, 1, 2);
        Check.is(".MBBBB..", () -> day(x, 0, 0));
    }

    private static void isFree() {
        Rigdiary x = new Rigdiary();
        x.meeting(set(3), 2, 2, NONE);
        x.leave(4, 1, 1);
        Check.is(true, () -> x.isFree(3, 1));
        Check.is(false, () -> x.isFree(3, 2));
        Check.is(false, () -> x.isFree(3, 3));
        Check.is(true, () -> x.isFree(3, 4));
        Check.is(true, () -> x.isFree(4, 2));
        Check.is(false, () -> x.isFree(4, 15));
        Check.is(true, () -> x.isFree(4, 16));
        x.pass(3);
        Check.is(false, () -> x.isFree(3, 2));
        x.pass(1);
        Check.is(true, () -> x.isFree(3, 2));
        Check.is(true, () -> x.isFree(3, 3));
        x.meeting(set(9), 399, 1, NONE);
        Check.is(false, () -> x.isFree(9, 399));
        x.cancel(1);
        Check.is(true, () -> x.isFree(9, 399));
        Check.refuses(Check.INDEX, () -> x.isFree(-1, 0));
        Check.refuses(Check.INDEX, () -> x.isFree(10, 400));
        Check.refuses(Check.ARGUMENT, () -> x.isFree(0, -1));
        Check.refuses(Check.ARGUMENT, () -> x.isFree(0, 400));
    }

    /** A new swap to which the two agree, one behind the other, ends like this. */
    private static void agreed(Rigdiary x, int due, int meeting, int other, int one, int two) {
        agreedTo(x, due, x.swap(meeting, other), one, two);
    }

    private static void agreedTo(Rigdiary x, int due, int swap, int one, int two) {
        if (one != two) {
            Check.is(Rigdiary.OPEN, () -> x.agree(one, swap));
        }
        Check.is(due, () -> x.agree(two, swap));
        Check.is(due, () -> x.swapOf(swap));
    }
}
