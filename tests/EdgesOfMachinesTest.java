/** Promises 1 to 5 and 19 at their edges: a new object, machine, leave, lend, breakDown, has. */
public final class EdgesOfMachinesTest extends Ways {
    private static final CheckEdges.Story SIX = x -> {
        for (int i = 0; i < 6; i++) {
            x.machine(i, i);
        }
    };
    private static final CheckEdges.Story TWENTY_LOANS = x -> {
        x.machine(0, 0);
        x.machine(0, 1);
        for (int i = 0; i < 20; i++) {
            x.lend(i % 2, 2 + i % 3, i, i);
        }
    };
    /** Person 1 has a meeting in the last slot of day 1 and in the first one of day 2. */
    private static final CheckEdges.Story TWO_DAYS = x -> {
        x.meeting(set(1), 15, 1, NONE);
        x.meeting(set(1), 16, 1, NONE);
    };
    /** A build of 4 slots on each of two machines, begun in the slot 0; it is the slot 1. */
    private static final CheckEdges.Story TWO_RUN = x -> {
        x.machine(1, 0);
        x.machine(2, 0);
        x.build(1, 5, 4);
        x.build(2, 5, 4);
        x.pass(1);
    };

    public static void main(String[] args) {
        Check.all(EdgesOfMachinesTest.class);
    }

    private static CheckEdges.Story at(int slot) {
        return x -> {
            x.machine(0, 0);
            passTo(x, slot);
        };
    }

    // ---- promise 1

    static void aNewObjectHasNoMachine() {
        CheckEdges.refuses(NOTHING, Check.INDEX, x -> x.has(0, 0));
        CheckEdges.refuses(NOTHING, Check.INDEX, x -> x.diary(0, 0, 0));
        CheckEdges.refuses(NOTHING, Check.INDEX, x -> x.lend(0, 0, 0, 0));
        CheckEdges.refuses(NOTHING, Check.INDEX, x -> x.breakDown(0, 0));
        CheckEdges.refuses(NOTHING, Check.INDEX, x -> x.meeting(1, 0, 1, 0));
    }

    static void aNewObjectHasNoMeeting() {
        CheckEdges.refuses(NOTHING, Check.INDEX, x -> x.meetingOf(0, 0));
        CheckEdges.refuses(NOTHING, Check.INDEX, x -> x.move(0, 0));
        CheckEdges.refuses(NOTHING, Check.INDEX, x -> x.cancel(0));
        CheckEdges.refuses(NOTHING, Check.INDEX, x -> x.swap(0, 0));
    }

    static void aNewObjectHasNoSwap() {
        CheckEdges.refuses(NOTHING, Check.INDEX, x -> x.swapOf(0));
        CheckEdges.refuses(NOTHING, Check.INDEX, x -> x.agree(0, 0));
    }

    static void aNewObjectHasNoBuild() {
        CheckEdges.refuses(NOTHING, Check.INDEX, x -> x.buildOf(0, 0));
        CheckEdges.refuses(NOTHING, Check.INDEX, x -> x.urge(0, 0));
        CheckEdges.refuses(NOTHING, Check.INDEX, x -> x.beganAnew(0));
    }

    static void aNewObjectIsInTheSlotZero() {
        CheckEdges.answers(NOTHING, 0, x -> x.slot());
    }

    static void inANewObjectEverybodyIsFree() {
        for (int p = 0; p < 10; p++) {
            int person = p;
            CheckEdges.answers(NOTHING, true, x -> x.isFree(person, 0));
            CheckEdges.answers(NOTHING, true, x -> x.isFree(person, 399));
        }
    }

    static void whatIsToldToAnObjectIsNotToldToAnotherOne() {
        Rigdiary x = new Rigdiary();
        Rigdiary y = new Rigdiary();
        x.machine(0, 0);
        x.meeting(1, 0, 1, 0);
        x.leave(1, 0, 49);
        x.build(0, 0, 1);
        x.pass(9);
        Check.is(0, () -> y.slot());
        Check.refuses(Check.INDEX, () -> y.has(0, 0));
        Check.refuses(Check.INDEX, () -> y.meetingOf(0, 0));
        Check.refuses(Check.INDEX, () -> y.buildOf(0, 0));
        Check.is(true, () -> y.isFree(1, 0));
    }

    // ---- promise 2

    static void featuresAreZeroToFifteen() {
        CheckEdges.range(NOTHING, 0, 15, Check.ARGUMENT, (x, features) -> x.machine(features, 0));
    }

    static void anOwnerIsAPersonZeroToNine() {
        CheckEdges.range(NOTHING, 0, 9, Check.INDEX, (x, owner) -> x.machine(0, owner));
    }

    static void machinesAreNumberedFromZero() {
        Rigdiary x = new Rigdiary();
        for (int i = 0; i < 6; i++) {
            int number = i;
            Check.is(number, () -> x.machine(0, 0));
        }
    }

    static void aRefusedMachineTakesNoNumber() {
        Rigdiary x = new Rigdiary();
        Check.refuses(Check.ARGUMENT, () -> x.machine(16, 0));
        Check.is(0, () -> x.machine(0, 0));
        Check.refuses(Check.INDEX, () -> x.machine(0, 10));
        Check.is(1, () -> x.machine(0, 0));
    }

    static void thereAreSixMachinesAtMost() {
        CheckEdges.refuses(SIX, Check.STATE, x -> x.machine(0, 0));
        CheckEdges.refuses(SIX, Check.STATE, x -> x.machine(15, 9));
    }

    static void theSixthMachineIsOneAsTheOthers() {
        Rigdiary x = CheckEdges.diary(SIX);
        Check.is(5, () -> x.has(5, 399));
        Check.is(NONE, () -> x.breakDown(5, 1));
        Check.is(".......".concat(BROKEN), () -> day(x, 5, 0));
        x.lend(5, 9, 1, 1);
        Check.is(9, () -> x.has(5, 1));
        x.build(5, 0, 1);
        x.pass(2);
        Check.is(5, () -> x.buildOf(0, 1));
        Check.is(1, () -> x.beganAnew(0));
        Check.is(0, () -> x.meeting(1, 2, 1, 5));
    }

    static void aFeatureIsOneOfFour() {
        for (int f = 0; f < 4; f++) {
            Rigdiary x = new Rigdiary();
            x.machine(1 << f, 0);
            for (int g = 0; g < 4; g++) {
                x.build(1 << g, 0, 1);
            }
            x.pass(1);
            for (int g = 0; g < 4; g++) {
                int build = g;
                Check.is(f == g ? Rigdiary.BUILT : Rigdiary.QUEUED, () -> x.buildOf(build, 0));
            }
        }
    }

    static void ofSeveralExceptionsMachineThrowsTheFirst() {
        CheckEdges.refuses(NOTHING, Check.INDEX, x -> x.machine(16, 10));
        CheckEdges.refuses(NOTHING, Check.INDEX, x -> x.machine(-1, -1));
        CheckEdges.refuses(SIX, Check.INDEX, x -> x.machine(0, 10));
        CheckEdges.refuses(SIX, Check.INDEX, x -> x.machine(16, -1));
        CheckEdges.refuses(SIX, Check.ARGUMENT, x -> x.machine(16, 0));
        CheckEdges.refuses(SIX, Check.ARGUMENT, x -> x.machine(-1, 0));
    }

    // ---- promise 3

    static void whoLeavesIsAPersonZeroToNine() {
        CheckEdges.range(NOTHING, 0, 9, Check.INDEX, (x, person) -> x.leave(person, 0, 0));
    }

    static void leaveIsFromTheDayOfNow() {
        CheckEdges.range(NOTHING, 0, 49, Check.ARGUMENT, (x, from) -> x.leave(0, from, 49));
        CheckEdges.range(at(7), 0, 49, Check.ARGUMENT, (x, from) -> x.leave(0, from, 49));
        CheckEdges.range(at(8), 1, 49, Check.ARGUMENT, (x, from) -> x.leave(0, from, 49));
        CheckEdges.range(at(15), 1, 49, Check.ARGUMENT, (x, from) -> x.leave(0, from, 49));
        CheckEdges.range(at(399), 49, 49, Check.ARGUMENT, (x, from) -> x.leave(0, from, 49));
    }

    static void leaveIsToADayFromTheFirstOneOn() {
        CheckEdges.range(NOTHING, 0, 49, Check.ARGUMENT, (x, to) -> x.leave(0, 0, to));
        CheckEdges.range(NOTHING, 7, 49, Check.ARGUMENT, (x, to) -> x.leave(0, 7, to));
        CheckEdges.range(NOTHING, 49, 49, Check.ARGUMENT, (x, to) -> x.leave(0, 49, to));
    }

    static void inTheSlot400NoDayIsLeftForLeave() {
        for (int day = 48; day <= 51; day++) {
            int from = day;
            CheckEdges.refuses(at(400), Check.ARGUMENT, x -> x.leave(0, from, from));
        }
    }

    static void leaveIsFromItsFirstSlotToItsLastOne() {
        Rigdiary x = new Rigdiary();
        x.leave(4, 2, 3);
        for (int s = 0; s < 48; s++) {
            int slot = s;
            Check.is(s < 16 || s > 31, () -> x.isFree(4, slot));
            Check.is(true, () -> x.isFree(5, slot));
        }
    }

    static void leaveCanBeOnTheFirstDayAndOnTheLastOne() {
        Rigdiary x = new Rigdiary();
        x.leave(0, 0, 0);
        x.leave(9, 49, 49);
        Check.is(false, () -> x.isFree(0, 0));
        Check.is(false, () -> x.isFree(0, 7));
        Check.is(true, () -> x.isFree(0, 8));
        Check.is(true, () -> x.isFree(9, 391));
        Check.is(false, () -> x.isFree(9, 392));
        Check.is(false, () -> x.isFree(9, 399));
        x.leave(5, 0, 49);
        Check.is(false, () -> x.isFree(5, 0));
        Check.is(false, () -> x.isFree(5, 200));
        Check.is(false, () -> x.isFree(5, 399));
    }

    static void leaveToldTwiceIsLeave() {
        Rigdiary x = new Rigdiary();
        x.leave(3, 1, 2);
        x.leave(3, 2, 3);
        x.leave(3, 2, 2);
        Check.is(true, () -> x.isFree(3, 7));
        Check.is(false, () -> x.isFree(3, 8));
        Check.is(false, () -> x.isFree(3, 16));
        Check.is(false, () -> x.isFree(3, 31));
        Check.is(true, () -> x.isFree(3, 32));
    }

    static void leaveIsNoLoan() {
        Rigdiary x = CheckEdges.diary(MACHINE);
        x.machine(0, 5);
        for (int i = 0; i < 20; i++) {
            x.leave(i % 10, 0, 0);
        }
        Check.is(0, () -> x.has(0, 0));
        Check.is(5, () -> x.has(1, 0));
        for (int i = 0; i < 20; i++) {
            Check.does(() -> x.lend(0, 1, 0, 0));
        }
    }

    static void nobodyLeavesWithAMeetingThen() {
        CheckEdges.refuses(TWO_DAYS, Check.STATE, x -> x.leave(1, 1, 1));
        CheckEdges.refuses(TWO_DAYS, Check.STATE, x -> x.leave(1, 2, 2));
        CheckEdges.refuses(TWO_DAYS, Check.STATE, x -> x.leave(1, 0, 1));
        CheckEdges.refuses(TWO_DAYS, Check.STATE, x -> x.leave(1, 2, 3));
        CheckEdges.refuses(TWO_DAYS, Check.STATE, x -> x.leave(1, 0, 49));
    }

    static void meetingsOfOtherDaysAndOthersDoNotHinderLeave() {
        Rigdiary x = CheckEdges.diary(TWO_DAYS);
        Check.does(() -> x.leave(1, 0, 0));
        Check.does(() -> x.leave(1, 3, 49));
        Check.does(() -> x.leave(0, 1, 2));
        Check.does(() -> x.leave(2, 1, 2));
    }

    static void eachOneOfAMeetingHasIt() {
        CheckEdges.Story all = x -> x.meeting(1023, 399, 1, NONE);
        for (int p = 0; p < 10; p++) {
            int person = p;
            CheckEdges.refuses(all, Check.STATE, x -> x.leave(person, 49, 49));
        }
    }

    static void leaveWaitsUntilTheMeetingIsOver() {
        CheckEdges.Story hasBegun = x -> {
            x.meeting(set(1), 0, 3, NONE);
            x.pass(2);
        };
        CheckEdges.refuses(hasBegun, Check.STATE, x -> x.leave(1, 0, 0));
        Rigdiary x = CheckEdges.diary(hasBegun);
        x.pass(1);
        Check.does(() -> x.leave(1, 0, 0));
    }

    static void meetingsThatAreCancelledOrMovedAwayDoNotHinderLeave() {
        Rigdiary x = CheckEdges.diary(TWO_DAYS);
        x.cancel(0);
        Check.does(() -> x.leave(1, 1, 1));
        x.move(1, 24);
        Check.does(() -> x.leave(1, 2, 2));
        Check.refuses(Check.STATE, () -> x.leave(1, 3, 3));
    }

    static void ofSeveralExceptionsLeaveThrowsTheFirst() {
        CheckEdges.refuses(TWO_DAYS, Check.INDEX, x -> x.leave(10, -1, 0));
        CheckEdges.refuses(TWO_DAYS, Check.INDEX, x -> x.leave(-1, 0, 50));
        CheckEdges.refuses(TWO_DAYS, Check.ARGUMENT, x -> x.leave(1, 1, 50));
        CheckEdges.refuses(TWO_DAYS, Check.ARGUMENT, x -> x.leave(1, -1, 2));
        CheckEdges.refuses(TWO_DAYS, Check.ARGUMENT, x -> x.leave(1, 2, 1));
    }

    // ---- promise 4

    static void whatIsLentIsAMachineThatThereIs() {
        CheckEdges.range(MACHINE, 0, 0, Check.INDEX, (x, machine) -> x.lend(machine, 1, 0, 0));
        CheckEdges.range(SIX, 0, 5, Check.INDEX, (x, machine) -> x.lend(machine, 1, 0, 0));
    }

    static void whoBorrowsIsAPersonZeroToNine() {
        CheckEdges.range(MACHINE, 0, 9, Check.INDEX, (x, person) -> x.lend(0, person, 0, 0));
    }

    static void aLoanIsFromNowOn() {
        CheckEdges.range(MACHINE, 0, 399, Check.ARGUMENT, (x, from) -> x.lend(0, 1, from, 399));
        CheckEdges.range(at(9), 9, 399, Check.ARGUMENT, (x, from) -> x.lend(0, 1, from, 399));
        CheckEdges.range(at(399), 399, 399, Check.ARGUMENT, (x, from) -> x.lend(0, 1, from, 399));
    }

    static void aLoanIsToASlotFromTheFirstOneOn() {
        CheckEdges.range(MACHINE, 0, 399, Check.ARGUMENT, (x, to) -> x.lend(0, 1, 0, to));
        CheckEdges.range(MACHINE, 17, 399, Check.ARGUMENT, (x, to) -> x.lend(0, 1, 17, to));
        CheckEdges.range(MACHINE, 399, 399, Check.ARGUMENT, (x, to) -> x.lend(0, 1, 399, to));
    }

    static void inTheSlot400NoSlotIsLeftForALoan() {
        for (int slot = 398; slot <= 401; slot++) {
            int from = slot;
            CheckEdges.refuses(at(400), Check.ARGUMENT, x -> x.lend(0, 1, from, from));
        }
    }

    static void thereAreTwentyLoansAtMost() {
        Rigdiary x = new Rigdiary();
        x.machine(0, 0);
        for (int i = 0; i < 20; i++) {
            Check.does(() -> x.lend(0, 1, 0, 0));
        }
        Check.refuses(Check.STATE, () -> x.lend(0, 1, 0, 0));
    }

    static void theTwentyLoansAreOfAllMachines() {
        CheckEdges.refuses(TWENTY_LOANS, Check.STATE, x -> x.lend(0, 9, 0, 399));
        CheckEdges.refuses(TWENTY_LOANS, Check.STATE, x -> x.lend(1, 9, 0, 399));
    }

    static void loansThatAreOverCountToo() {
        CheckEdges.Story later = x -> {
            TWENTY_LOANS.tell(x);
            passTo(x, 100);
        };
        CheckEdges.refuses(later, Check.STATE, x -> x.lend(0, 9, 100, 100));
    }

    static void theTwentiethLoanCounts() {
        Rigdiary x = CheckEdges.diary(TWENTY_LOANS);
        Check.is(3, () -> x.has(1, 19));
        Check.is(0, () -> x.has(0, 19));
        Check.is(1, () -> x.has(1, 18));
    }

    static void aRefusedLoanIsNone() {
        Rigdiary x = CheckEdges.diary(MACHINE);
        Check.refuses(Check.ARGUMENT, () -> x.lend(0, 1, 0, 400));
        for (int i = 0; i < 20; i++) {
            Check.does(() -> x.lend(0, 1, 0, 0));
        }
    }

    static void aLoanIsFromItsFirstSlotToItsLastOne() {
        Rigdiary x = CheckEdges.diary(MACHINE);
        x.lend(0, 7, 10, 12);
        x.lend(0, 8, 0, 0);
        x.lend(0, 9, 399, 399);
        Check.is(8, () -> x.has(0, 0));
        Check.is(0, () -> x.has(0, 1));
        Check.is(0, () -> x.has(0, 9));
        Check.is(7, () -> x.has(0, 10));
        Check.is(7, () -> x.has(0, 11));
        Check.is(7, () -> x.has(0, 12));
        Check.is(0, () -> x.has(0, 13));
        Check.is(0, () -> x.has(0, 398));
        Check.is(9, () -> x.has(0, 399));
    }

    static void ofSeveralLoansTheLatestOneToldCounts() {
        Rigdiary x = CheckEdges.diary(MACHINE);
        x.lend(0, 1, 10, 20);
        x.lend(0, 2, 12, 14);
        Check.is(1, () -> x.has(0, 11));
        Check.is(2, () -> x.has(0, 12));
        Check.is(2, () -> x.has(0, 14));
        Check.is(1, () -> x.has(0, 15));
        x.lend(0, 3, 10, 20);
        Check.is(3, () -> x.has(0, 12));
        x.lend(0, 0, 20, 20);
        Check.is(0, () -> x.has(0, 20));
    }

    static void ofSeveralExceptionsLendThrowsTheFirst() {
        CheckEdges.refuses(TWENTY_LOANS, Check.INDEX, x -> x.lend(2, 0, 0, 400));
        CheckEdges.refuses(TWENTY_LOANS, Check.INDEX, x -> x.lend(0, 10, -1, 0));
        CheckEdges.refuses(TWENTY_LOANS, Check.INDEX, x -> x.lend(2, 0, 0, 0));
        CheckEdges.refuses(TWENTY_LOANS, Check.INDEX, x -> x.lend(0, 10, 0, 0));
        CheckEdges.refuses(TWENTY_LOANS, Check.ARGUMENT, x -> x.lend(0, 0, -1, 0));
        CheckEdges.refuses(TWENTY_LOANS, Check.ARGUMENT, x -> x.lend(0, 0, 0, 400));
    }

    // ---- promise 5

    static void whatBreaksIsAMachineThatThereIs() {
        CheckEdges.range(MACHINE, 0, 0, Check.INDEX, (x, machine) -> x.breakDown(machine, 1));
        CheckEdges.range(SIX, 0, 5, Check.INDEX, (x, machine) -> x.breakDown(machine, 1));
    }

    static void aMachineIsBrokenForZeroToFortySlots() {
        CheckEdges.range(MACHINE, 0, 40, Check.ARGUMENT, (x, slots) -> x.breakDown(0, slots));
        CheckEdges.range(TWO_RUN, 0, 40, Check.ARGUMENT, (x, slots) -> x.breakDown(1, slots));
    }

    static void theSlotOfNowIsTheFirstBrokenOne() {
        Rigdiary x = CheckEdges.diary(at(3));
        x.breakDown(0, 1);
        Check.is("....".concat(BROKEN).concat("..."), () -> day(x, 0, 0));
    }

    static void fortySlotsAreBroken() {
        Rigdiary x = CheckEdges.diary(at(3));
        x.breakDown(0, 40);
        String five = BROKEN.repeat(5);
        Check.is(five.concat("..."), () -> day(x, 0, 0));
        Check.is(BROKEN.repeat(8), () -> day(x, 0, 4));
        Check.is(".....".concat(BROKEN.repeat(3)), () -> day(x, 0, 5));
    }

    static void ofNoSlotsItIsMended() {
        Rigdiary x = CheckEdges.diary(MACHINE);
        x.breakDown(0, 40);
        Check.is(NONE, () -> x.breakDown(0, 0));
        Check.is("........", () -> day(x, 0, 0));
        Check.is("........", () -> day(x, 0, 4));
    }

    static void aLaterTellingTakesThePlaceOfTheOneAhead() {
        Rigdiary x = CheckEdges.diary(MACHINE);
        x.breakDown(0, 5);
        x.breakDown(0, 2);
        Check.is("......".concat(BROKEN.repeat(2)), () -> day(x, 0, 0));
        x.pass(1);
        x.breakDown(0, 4);
        Check.is("...".concat(BROKEN.repeat(4)).concat("."), () -> day(x, 0, 0));
    }

    static void theBuildThatRunsIsQueuedAgain() {
        Rigdiary x = CheckEdges.diary(TWO_RUN);
        Check.is(0, () -> x.breakDown(0, 1));
        Check.is(Rigdiary.QUEUED, () -> x.buildOf(0, 0));
        Check.is(Rigdiary.RUNS, () -> x.buildOf(1, 0));
        Check.is(NONE, () -> x.breakDown(0, 1));
        Check.is(1, () -> x.breakDown(1, 40));
        Check.is(NONE, () -> x.breakDown(1, 40));
    }

    static void forNoSlotNoBuildIsQueuedAgain() {
        Rigdiary x = CheckEdges.diary(TWO_RUN);
        Check.is(NONE, () -> x.breakDown(0, 0));
        Check.is(NONE, () -> x.breakDown(1, 0));
        Check.is(Rigdiary.RUNS, () -> x.buildOf(0, 0));
        x.pass(3);
        Check.is(Rigdiary.BUILT, () -> x.buildOf(0, 0));
        Check.is(0, () -> x.buildOf(0, 2));
        Check.is(1, () -> x.buildOf(0, 3));
    }

    static void aBuildIsQueuedAgainFromItsBeginning() {
        Rigdiary x = CheckEdges.diary(TWO_RUN);
        x.pass(2);
        x.breakDown(0, 1);
        x.pass(1);
        Check.is(Rigdiary.QUEUED, () -> x.buildOf(0, 0));
        x.pass(3);
        Check.is(4, () -> x.buildOf(0, 2));
        Check.is(Rigdiary.RUNS, () -> x.buildOf(0, 0));
        x.pass(1);
        Check.is(Rigdiary.BUILT, () -> x.buildOf(0, 0));
        Check.is(2, () -> x.buildOf(0, 3));
    }

    static void aBuildWhoseLastSlotPassedIsNotQueuedAgain() {
        Rigdiary x = CheckEdges.diary(TWO_RUN);
        x.pass(2);
        Check.is(0, () -> x.breakDown(0, 1));
        x.pass(1);
        Check.is(NONE, () -> x.breakDown(1, 1));
        Check.is(Rigdiary.BUILT, () -> x.buildOf(1, 0));
    }

    static void theLastBuildThatFitsIsQueuedAgain() {
        Rigdiary x = CheckEdges.diary(MACHINE);
        for (int i = 0; i < 40; i++) {
            x.build(0, i == 39 ? 9 : 0, 2);
        }
        x.pass(1);
        Check.is(39, () -> x.breakDown(0, 1));
        Check.is(Rigdiary.QUEUED, () -> x.buildOf(39, 0));
    }

    static void meetingsOnABrokenMachineStay() {
        CheckEdges.Story story = x -> {
            x.machine(0, 0);
            x.meeting(set(1), 0, 2, 0);
            x.meeting(set(2), 5, 1, 0);
            x.pass(1);
        };
        Rigdiary x = CheckEdges.diary(story);
        Check.is(NONE, () -> x.breakDown(0, 40));
        for (int i = 0; i < 2; i++) {
            int number = i;
            Check.is(Rigdiary.SET, () -> x.meetingOf(number, 0));
            Check.is(5 * number, () -> x.meetingOf(number, 1));
            Check.is(0, () -> x.meetingOf(number, 3));
        }
        Check.is(false, () -> x.isFree(1, 1));
        x.pass(5);
        Check.is(Rigdiary.OVER, () -> x.meetingOf(0, 0));
        Check.is(Rigdiary.OVER, () -> x.meetingOf(1, 0));
    }

    static void aMachineBreaksInTheSlot400Too() {
        Rigdiary x = CheckEdges.diary(at(399));
        x.build(0, 0, 2);
        x.pass(1);
        Check.is(NONE, () -> x.breakDown(0, 0));
        Check.is(0, () -> x.breakDown(0, 40));
        Check.is(NONE, () -> x.breakDown(0, 40));
        Check.is("........", () -> day(x, 0, 49));
        CheckEdges.outside(at(400), 0, 40, Check.ARGUMENT, (y, slots) -> y.breakDown(0, slots));
    }

    static void ofSeveralExceptionsBreakDownThrowsTheFirst() {
        CheckEdges.refuses(TWO_RUN, Check.INDEX, x -> x.breakDown(2, 41));
        CheckEdges.refuses(TWO_RUN, Check.INDEX, x -> x.breakDown(-1, -1));
    }

    // ---- promise 19

    static void hasIsOfAMachineThatThereIs() {
        CheckEdges.range(MACHINE, 0, 0, Check.INDEX, (x, machine) -> x.has(machine, 0));
        CheckEdges.range(SIX, 0, 5, Check.INDEX, (x, machine) -> x.has(machine, 0));
    }

    static void hasIsOfASlotZeroTo399() {
        CheckEdges.range(MACHINE, 0, 399, Check.ARGUMENT, (x, slot) -> x.has(0, slot));
        CheckEdges.range(at(400), 0, 399, Check.ARGUMENT, (x, slot) -> x.has(0, slot));
    }

    static void theOwnerHasAMachineThatIsNotLent() {
        Rigdiary x = CheckEdges.diary(SIX);
        for (int i = 0; i < 6; i++) {
            int number = i;
            Check.is(number, () -> x.has(number, 0));
            Check.is(number, () -> x.has(number, 399));
        }
    }

    static void whoHadAMachineIsToldLaterToo() {
        Rigdiary x = CheckEdges.diary(MACHINE);
        x.lend(0, 4, 0, 1);
        x.pass(1);
        x.lend(0, 5, 1, 2);
        passTo(x, 400);
        Check.is(4, () -> x.has(0, 0));
        Check.is(5, () -> x.has(0, 1));
        Check.is(5, () -> x.has(0, 2));
        Check.is(0, () -> x.has(0, 3));
    }

    static void ofSeveralExceptionsHasThrowsTheFirst() {
        CheckEdges.refuses(MACHINE, Check.INDEX, x -> x.has(1, 400));
        CheckEdges.refuses(MACHINE, Check.INDEX, x -> x.has(-1, -1));
    }
}
