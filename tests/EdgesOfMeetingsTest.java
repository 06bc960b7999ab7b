/** Promises 6 to 8, 15 and 20 at their edges: meeting, move, cancel, meetingOf, isFree. */
public final class EdgesOfMeetingsTest extends Ways {
    /** Person 1 with the machine 0 in the slots 10 and 11. */
    private static final CheckEdges.Story ONE = x -> {
        x.machine(0, 0);
        x.machine(0, 0);
        x.meeting(set(1), 10, 2, 0);
    };
    private static final CheckEdges.Story THIRTY = x -> {
        x.machine(0, 0);
        for (int i = 0; i < 30; i++) {
            x.meeting(set(i % 10), 8 * i, 1, i == 29 ? 0 : NONE);
        }
    };
    /** A build of 3 slots runs in the slots 9 to 11; it is the slot 10. */
    private static final CheckEdges.Story RUNS = x -> {
        x.machine(0, 0);
        passTo(x, 9);
        x.build(0, 0, 3);
        x.pass(1);
    };
    /** The machine is broken in the slots 9 to 11; it is the slot 10. */
    private static final CheckEdges.Story BREAKS = x -> {
        x.machine(0, 0);
        passTo(x, 9);
        x.breakDown(0, 3);
        x.pass(1);
    };

    public static void main(String[] args) {
        Check.all(EdgesOfMeetingsTest.class);
    }

    private static CheckEdges.Story oneAt(int slot) {
        return x -> {
            ONE.tell(x);
            passTo(x, slot);
        };
    }

    private static CheckEdges.Story at(int slot) {
        return x -> passTo(x, slot);
    }

    /** Asks for each place from a slot on to another one whether a meeting can be there: not, where it meets slots. */
    private static void canBe(CheckEdges.Story story, int people, int machine, int slot, int length) {
        int from = CheckEdges.diary(story).slot();
        for (int s = Math.max(from, 8); s < 32; s++) {
            for (int l = 1; l <= 4 && isOneDay(s, l); l++) {
                int begins = s;
                int lasts = l;
                boolean hindered = overlap(s, l, slot, length);
                Rigdiary x = CheckEdges.diary(story);
                int number = count(x);
                Check.is(hindered ? Check.STATE : number, () -> x.meeting(people, begins, lasts, machine));
            }
        }
    }

    /** The same for the moves of the meeting that is told last, of each length. */
    private static void canMove(CheckEdges.Story story, int people, int machine, int slot, int length) {
        int from = CheckEdges.diary(story).slot();
        for (int s = Math.max(from, 8); s < 32; s++) {
            for (int l = 1; l <= 4 && isOneDay(s, l); l++) {
                int begins = s;
                boolean hindered = overlap(s, l, slot, length);
                Rigdiary x = CheckEdges.diary(story);
                int number = x.meeting(people, 80, l, machine);
                Check.is(!hindered, () -> x.move(number, begins));
                Check.is(hindered ? 80 : begins, () -> x.meetingOf(number, 1));
            }
        }
    }

    private static int count(Rigdiary x) {
        int count = 0;
        while (count < 40 && isThere(x, count)) {
            count++;
        }
        return count;
    }

    private static boolean isThere(Rigdiary x, int meeting) {
        return Check.answer(() -> x.meetingOf(meeting, 0)) instanceof Integer;
    }

    // ---- promise 6

    static void theMachineOfAMeetingIsOneOrNone() {
        CheckEdges.range(MACHINE, -1, 0, Check.INDEX, (x, machine) -> x.meeting(1, 0, 1, machine));
        CheckEdges.range(NOTHING, -1, -1, Check.INDEX, (x, machine) -> x.meeting(1, 0, 1, machine));
    }

    static void peopleAreASetOfOneToTen() {
        CheckEdges.range(MACHINE, 1, 1023, Check.ARGUMENT, (x, people) -> x.meeting(people, 0, 1, 0));
    }

    static void aMeetingIsFromNowOn() {
        CheckEdges.range(NOTHING, 0, 399, Check.ARGUMENT, (x, slot) -> x.meeting(1, slot, 1, NONE));
        CheckEdges.range(at(9), 9, 399, Check.ARGUMENT, (x, slot) -> x.meeting(1, slot, 1, NONE));
        CheckEdges.range(at(399), 399, 399, Check.ARGUMENT, (x, slot) -> x.meeting(1, slot, 1, NONE));
    }

    static void inTheSlot400NoSlotIsLeftForAMeeting() {
        for (int s = 398; s <= 401; s++) {
            int slot = s;
            CheckEdges.refuses(at(400), Check.ARGUMENT, x -> x.meeting(1, slot, 1, NONE));
        }
    }

    static void aMeetingLastsOneToFourSlots() {
        CheckEdges.range(NOTHING, 1, 4, Check.ARGUMENT, (x, length) -> x.meeting(1, 0, length, NONE));
        CheckEdges.range(NOTHING, 1, 4, Check.ARGUMENT, (x, length) -> x.meeting(1, 396, length, NONE));
    }

    static void aMeetingIsOnOneDay() {
        for (int s = 0; s < 400; s++) {
            for (int l = 1; l <= 4; l++) {
                int slot = s;
                int length = l;
                CheckEdges.answers(NOTHING, isOneDay(s, l) ? 0 : Check.ARGUMENT,
                        x -> x.meeting(1, slot, length, NONE));
            }
        }
    }

    static void aMeetingThatIsNotOnOneDayChangesNothing() {
        CheckEdges.refuses(ONE, Check.ARGUMENT, x -> x.meeting(1, 7, 2, NONE));
        CheckEdges.refuses(ONE, Check.ARGUMENT, x -> x.meeting(1, 5, 4, NONE));
        CheckEdges.refuses(ONE, Check.ARGUMENT, x -> x.meeting(1, 15, 2, 1));
        CheckEdges.refuses(ONE, Check.ARGUMENT, x -> x.meeting(1, 399, 2, NONE));
        CheckEdges.refuses(ONE, Check.ARGUMENT, x -> x.meeting(1, 397, 4, NONE));
    }

    static void meetingsAreNumberedFromZero() {
        Rigdiary x = new Rigdiary();
        for (int i = 0; i < 30; i++) {
            int number = i;
            Check.is(number, () -> x.meeting(1, 13 * number, 1, NONE));
        }
    }

    static void aRefusedMeetingTakesNoNumber() {
        Rigdiary x = CheckEdges.diary(ONE);
        Check.refuses(Check.INDEX, () -> x.meeting(1, 20, 1, 2));
        Check.refuses(Check.ARGUMENT, () -> x.meeting(0, 20, 1, 0));
        Check.refuses(Check.STATE, () -> x.meeting(set(1), 10, 1, 1));
        Check.is(1, () -> x.meeting(1, 20, 1, 0));
    }

    static void thereAreThirtyMeetingsAtMost() {
        CheckEdges.refuses(THIRTY, Check.STATE, x -> x.meeting(1, 399, 1, NONE));
        CheckEdges.refuses(THIRTY, Check.STATE, x -> x.meeting(1, 399, 1, 0));
    }

    static void meetingsThatAreCancelledOrOverCountToo() {
        CheckEdges.Story cancelled = x -> {
            THIRTY.tell(x);
            x.pass(1);
            x.cancel(29);
        };
        CheckEdges.refuses(cancelled, Check.STATE, x -> x.meeting(1, 399, 1, NONE));
    }

    static void theThirtiethMeetingIsOneAsTheOthers() {
        Rigdiary x = CheckEdges.diary(THIRTY);
        Check.is(232, () -> x.meetingOf(29, 1));
        Check.is(0, () -> x.meetingOf(29, 3));
        Check.is(".......M", () -> day(x, 0, 29));
        Check.is(false, () -> x.isFree(9, 232));
        Check.is(true, () -> x.move(29, 233));
        Check.is(0, () -> x.swap(29, 28));
        Check.is(Rigdiary.OPEN, () -> x.agree(9, 0));
        Check.is(Rigdiary.DONE, () -> x.agree(8, 0));
        Check.is(224, () -> x.meetingOf(29, 1));
        Check.does(() -> x.cancel(29));
        Check.is(Rigdiary.CANCELLED, () -> x.meetingOf(29, 0));
    }

    static void nobodyIsInTwoMeetingsAtOnce() {
        canBe(ONE, set(1), NONE, 10, 2);
        canBe(ONE, set(0, 1, 9), 1, 10, 2);
        canBe(ONE, set(0, 2, 9), NONE, 0, 0);
    }

    static void eachPersonHindersAMeeting() {
        for (int p = 0; p < 10; p++) {
            int person = p;
            CheckEdges.Story busy = x -> x.meeting(set(person), 399, 1, NONE);
            CheckEdges.refuses(busy, Check.STATE, x -> x.meeting(1023, 399, 1, NONE));
            CheckEdges.answers(busy, 1, x -> x.meeting(1023 - set(person), 399, 1, NONE));
        }
    }

    static void peopleOfEachOfSeveralMeetingsHinder() {
        CheckEdges.Story several = x -> {
            for (int p = 0; p < 9; p++) {
                x.meeting(set(p), 10, 1, NONE);
            }
        };
        for (int p = 0; p < 10; p++) {
            int person = p;
            boolean busy = p < 9;
            CheckEdges.answers(several, busy ? Check.STATE : 9, x -> x.meeting(set(person), 10, 1, NONE));
            CheckEdges.answers(several, !busy, x -> x.move(x.meeting(set(person), 11, 1, NONE), 10));
            CheckEdges.answers(several, !busy, x -> x.isFree(person, 10));
            CheckEdges.answers(several, busy ? Check.STATE : true, x -> {
                x.leave(person, 1, 1);
                return true;
            });
        }
    }

    static void aMachineIsPromisedToOneMeetingAtOnce() {
        canBe(ONE, set(2), 0, 10, 2);
        canBe(ONE, set(2), 1, 0, 0);
    }

    static void whoIsOnLeaveIsInNoMeeting() {
        CheckEdges.Story leave = x -> x.leave(5, 2, 2);
        canBe(leave, set(5), NONE, 16, 8);
        canBe(leave, set(4, 5), NONE, 16, 8);
        canBe(leave, set(4), NONE, 0, 0);
    }

    static void aMeetingIsNotWhereABuildRunsOnItsMachine() {
        canBe(RUNS, set(1), 0, 9, 3);
        canBe(RUNS, set(1), NONE, 0, 0);
    }

    static void aMeetingIsNotWhereItsMachineIsBroken() {
        canBe(BREAKS, set(1), 0, 9, 3);
        canBe(BREAKS, set(1), NONE, 0, 0);
    }

    static void aBuildThatIsBuiltOrQueuedHindersNoMeeting() {
        Rigdiary x = CheckEdges.diary(RUNS);
        x.build(0, 0, 6);
        x.pass(1);
        Check.refuses(Check.STATE, () -> x.meeting(1, 11, 1, 0));
        x.pass(1);
        Check.is(0, () -> x.meeting(1, 12, 1, 0));
    }

    static void anotherMachineThatIsBrokenOrOnWhichABuildRunsHindersNoMeeting() {
        for (CheckEdges.Story story : new CheckEdges.Story[] {RUNS, BREAKS}) {
            canBe(x -> {
                story.tell(x);
                x.machine(0, 0);
            }, set(1), 1, 0, 0);
        }
    }

    static void whoHasTheMachineNeedNotBeThere() {
        CheckEdges.answers(MACHINE, 0, x -> {
            x.leave(0, 0, 49);
            return x.meeting(set(1), 0, 1, 0);
        });
    }

    static void aMeetingThatIsCancelledHindersNone() {
        canBe(x -> {
            ONE.tell(x);
            x.cancel(0);
        }, set(1), 0, 0, 0);
    }

    static void aMeetingHindersWhereItWasMoved() {
        CheckEdges.Story moved = x -> {
            ONE.tell(x);
            x.move(0, 17);
        };
        canBe(moved, set(1), NONE, 17, 2);
        canBe(moved, set(2), 0, 17, 2);
    }

    static void aMeetingHindersUntilItIsOver() {
        Rigdiary x = CheckEdges.diary(oneAt(11));
        Check.refuses(Check.STATE, () -> x.meeting(set(1), 11, 1, NONE));
        Check.refuses(Check.STATE, () -> x.meeting(set(2), 11, 1, 0));
        x.pass(1);
        Check.is(1, () -> x.meeting(set(1), 12, 1, 0));
    }

    static void ofSeveralExceptionsMeetingThrowsTheFirst() {
        CheckEdges.refuses(ONE, Check.INDEX, x -> x.meeting(0, 0, 1, 2));
        CheckEdges.refuses(ONE, Check.INDEX, x -> x.meeting(1, -1, 1, -2));
        CheckEdges.refuses(ONE, Check.INDEX, x -> x.meeting(1, 0, 5, 2));
        CheckEdges.refuses(ONE, Check.INDEX, x -> x.meeting(1, 7, 2, 2));
        CheckEdges.refuses(ONE, Check.INDEX, x -> x.meeting(set(1), 10, 1, 2));
        CheckEdges.refuses(ONE, Check.ARGUMENT, x -> x.meeting(1024 + set(1), 10, 1, 0));
        CheckEdges.refuses(ONE, Check.ARGUMENT, x -> x.meeting(set(1), 10, 5, 0));
        CheckEdges.refuses(ONE, Check.ARGUMENT, x -> x.meeting(set(1), 10, 0, 0));
        CheckEdges.refuses(x -> x.leave(1, 0, 1), Check.ARGUMENT, x -> x.meeting(set(1), 7, 2, NONE));
        CheckEdges.refuses(THIRTY, Check.INDEX, x -> x.meeting(1, 399, 1, 1));
        CheckEdges.refuses(THIRTY, Check.ARGUMENT, x -> x.meeting(0, 399, 1, 0));
        CheckEdges.refuses(THIRTY, Check.ARGUMENT, x -> x.meeting(1, 400, 1, 0));
        CheckEdges.refuses(THIRTY, Check.ARGUMENT, x -> x.meeting(1, 399, 2, 0));
    }

    // ---- promise 7

    static void whatIsMovedIsAMeetingThatThereIs() {
        CheckEdges.range(ONE, 0, 0, Check.INDEX, (x, meeting) -> x.move(meeting, 30));
        CheckEdges.range(THIRTY, 0, 29, Check.INDEX, (x, meeting) -> x.move(meeting, 399));
    }

    static void aMeetingIsMovedToASlotFromNowOn() {
        CheckEdges.range(ONE, 0, 398, Check.ARGUMENT, (x, slot) -> x.move(0, slot));
        CheckEdges.range(oneAt(10), 10, 398, Check.ARGUMENT, (x, slot) -> x.move(0, slot));
        CheckEdges.Story last = x -> x.meeting(1, 399, 1, NONE);
        CheckEdges.range(last, 0, 399, Check.ARGUMENT, (x, slot) -> x.move(0, slot));
        CheckEdges.Story lastSlot = x -> {
            last.tell(x);
            passTo(x, 399);
        };
        CheckEdges.range(lastSlot, 399, 399, Check.ARGUMENT, (x, slot) -> x.move(0, slot));
    }

    static void aMeetingIsMovedToOneDay() {
        for (int l = 1; l <= 4; l++) {
            int length = l;
            for (int s = 0; s < 400; s++) {
                int slot = s;
                CheckEdges.answers(x -> x.meeting(1, 200, length, NONE),
                        isOneDay(s, l) ? true : Check.ARGUMENT, x -> x.move(0, slot));
            }
        }
    }

    static void aMoveThatIsNotOnOneDayChangesNothing() {
        CheckEdges.refuses(ONE, Check.ARGUMENT, x -> x.move(0, 15));
        CheckEdges.refuses(ONE, Check.ARGUMENT, x -> x.move(0, 399));
    }

    static void aMeetingMovesWhereItsPeopleHaveNoOtherOne() {
        canMove(ONE, set(1), NONE, 10, 2);
        canMove(ONE, set(1, 2), 1, 10, 2);
        canMove(ONE, set(2), NONE, 0, 0);
    }

    static void aMeetingMovesWhereItsMachineIsPromisedToNoOtherOne() {
        canMove(ONE, set(2), 0, 10, 2);
        canMove(ONE, set(2), 1, 0, 0);
    }

    static void aMeetingMovesWhereNobodyIsOnLeave() {
        CheckEdges.Story leave = x -> x.leave(5, 2, 2);
        canMove(leave, set(5), NONE, 16, 8);
        canMove(leave, set(4), NONE, 0, 0);
    }

    static void aMeetingMovesWhereNoBuildRunsOnItsMachine() {
        canMove(RUNS, set(1), 0, 9, 3);
        canMove(RUNS, set(1), NONE, 0, 0);
    }

    static void aMeetingMovesWhereItsMachineIsNotBroken() {
        canMove(BREAKS, set(1), 0, 9, 3);
        canMove(BREAKS, set(1), NONE, 0, 0);
    }

    static void aMeetingIsNotInItsOwnWay() {
        for (int s = 8; s <= 12; s++) {
            int slot = s;
            CheckEdges.Story four = x -> {
                x.machine(0, 0);
                x.meeting(1023, 10, 4, 0);
            };
            CheckEdges.answers(four, true, x -> x.move(0, slot));
        }
    }

    static void aMeetingThatCannotBeThereIsNotMoved() {
        CheckEdges.Story two = x -> {
            ONE.tell(x);
            x.meeting(set(1), 20, 1, NONE);
        };
        CheckEdges.answers(two, false, x -> x.move(1, 11));
        CheckEdges.changesNothing(two, x -> x.move(1, 11));
        CheckEdges.changesNothing(two, x -> x.move(0, 19));
    }

    static void aMeetingIsMovedUntilItHasBegun() {
        CheckEdges.answers(oneAt(10), true, x -> x.move(0, 12));
        CheckEdges.answers(oneAt(10), true, x -> x.move(0, 10));
        CheckEdges.refuses(oneAt(11), Check.STATE, x -> x.move(0, 12));
    }

    static void aMeetingThatIsOverIsNotMoved() {
        CheckEdges.refuses(oneAt(12), Check.STATE, x -> x.move(0, 12));
        CheckEdges.refuses(oneAt(300), Check.STATE, x -> x.move(0, 300));
    }

    static void aMeetingThatIsCancelledIsNotMoved() {
        CheckEdges.Story cancelled = x -> {
            ONE.tell(x);
            x.cancel(0);
        };
        CheckEdges.refuses(cancelled, Check.STATE, x -> x.move(0, 10));
        CheckEdges.refuses(cancelled, Check.STATE, x -> x.move(0, 20));
    }

    static void aMeetingKeepsAllButItsSlot() {
        Rigdiary x = CheckEdges.diary(ONE);
        x.move(0, 398);
        Check.is(Rigdiary.SET, () -> x.meetingOf(0, 0));
        Check.is(398, () -> x.meetingOf(0, 1));
        Check.is(2, () -> x.meetingOf(0, 2));
        Check.is(0, () -> x.meetingOf(0, 3));
        Check.is(set(1), () -> x.meetingOf(0, 4));
        Check.is("........", () -> day(x, 0, 1));
        Check.is("MM......", () -> day(x, 0, 49));
        Check.is(true, () -> x.isFree(1, 10));
        Check.is(false, () -> x.isFree(1, 399));
    }

    static void ofSeveralExceptionsMoveThrowsTheFirst() {
        CheckEdges.refuses(oneAt(12), Check.INDEX, x -> x.move(1, 400));
        CheckEdges.refuses(oneAt(12), Check.INDEX, x -> x.move(-1, 11));
        CheckEdges.refuses(oneAt(12), Check.ARGUMENT, x -> x.move(0, 11));
        CheckEdges.refuses(oneAt(12), Check.ARGUMENT, x -> x.move(0, 400));
        CheckEdges.refuses(oneAt(12), Check.ARGUMENT, x -> x.move(0, 15));
        CheckEdges.refuses(oneAt(11), Check.ARGUMENT, x -> x.move(0, 15));
        CheckEdges.refuses(oneAt(400), Check.ARGUMENT, x -> x.move(0, 400));
    }

    // ---- promise 8

    static void whatIsCancelledIsAMeetingThatThereIs() {
        CheckEdges.range(ONE, 0, 0, Check.INDEX, (x, meeting) -> x.cancel(meeting));
        CheckEdges.range(THIRTY, 0, 29, Check.INDEX, (x, meeting) -> x.cancel(meeting));
    }

    static void aMeetingIsCancelledUntilItHasBegun() {
        Rigdiary x = CheckEdges.diary(oneAt(10));
        Check.does(() -> x.cancel(0));
        Check.is(Rigdiary.CANCELLED, () -> x.meetingOf(0, 0));
        CheckEdges.refuses(oneAt(11), Check.STATE, y -> y.cancel(0));
    }

    static void aMeetingThatIsOverIsNotCancelled() {
        CheckEdges.refuses(oneAt(12), Check.STATE, x -> x.cancel(0));
        CheckEdges.refuses(oneAt(400), Check.STATE, x -> x.cancel(0));
    }

    static void aMeetingIsCancelledOnce() {
        CheckEdges.refuses(x -> {
            ONE.tell(x);
            x.cancel(0);
        }, Check.STATE, x -> x.cancel(0));
    }

    static void aMeetingThatIsCancelledIsNeverOver() {
        Rigdiary x = CheckEdges.diary(ONE);
        x.cancel(0);
        passTo(x, 400);
        Check.is(Rigdiary.CANCELLED, () -> x.meetingOf(0, 0));
        Check.is(10, () -> x.meetingOf(0, 1));
    }

    static void aMeetingMovedAheadIsCancelledUntilItBeginsThere() {
        Rigdiary x = CheckEdges.diary(oneAt(10));
        x.move(0, 20);
        passTo(x, 20);
        Check.does(() -> x.cancel(0));
    }

    // ---- promise 15

    static void meetingOfIsOfAMeetingThatThereIs() {
        CheckEdges.range(ONE, 0, 0, Check.INDEX, (x, meeting) -> x.meetingOf(meeting, 0));
        CheckEdges.range(THIRTY, 0, 29, Check.INDEX, (x, meeting) -> x.meetingOf(meeting, 0));
    }

    static void ofAMeetingFiveThingsAreTold() {
        CheckEdges.range(ONE, 0, 4, Check.ARGUMENT, (x, what) -> x.meetingOf(0, what));
    }

    static void theLeastMeetingAndTheGreatestOneAreTold() {
        Rigdiary x = CheckEdges.diary(MACHINE);
        x.meeting(1, 0, 1, NONE);
        x.meeting(1023, 396, 4, 0);
        int[][] due = {{Rigdiary.SET, 0, 1, NONE, 1}, {Rigdiary.SET, 396, 4, 0, 1023}};
        for (int i = 0; i < 2; i++) {
            for (int w = 0; w < 5; w++) {
                int meeting = i;
                int what = w;
                Check.is(due[i][w], () -> x.meetingOf(meeting, what));
            }
        }
    }

    static void aMeetingIsOverWhenItsLastSlotHasPassed() {
        for (int l = 1; l <= 4; l++) {
            Rigdiary x = new Rigdiary();
            x.meeting(1, 2, l, NONE);
            x.pass(1 + l);
            Check.is(Rigdiary.SET, () -> x.meetingOf(0, 0));
            x.pass(1);
            Check.is(Rigdiary.OVER, () -> x.meetingOf(0, 0));
        }
    }

    static void aMeetingInTheLastSlotIsOverInTheSlot400() {
        Rigdiary x = new Rigdiary();
        x.meeting(1, 399, 1, NONE);
        passTo(x, 399);
        Check.is(Rigdiary.SET, () -> x.meetingOf(0, 0));
        x.pass(1);
        Check.is(Rigdiary.OVER, () -> x.meetingOf(0, 0));
    }

    static void aMeetingIsOverWithinOneLongPass() {
        Rigdiary x = CheckEdges.diary(ONE);
        x.pass(50);
        Check.is(Rigdiary.OVER, () -> x.meetingOf(0, 0));
        Check.is(10, () -> x.meetingOf(0, 1));
        Check.is(0, () -> x.meetingOf(0, 3));
        Check.is(set(1), () -> x.meetingOf(0, 4));
    }

    static void ofSeveralExceptionsMeetingOfThrowsTheFirst() {
        CheckEdges.refuses(ONE, Check.INDEX, x -> x.meetingOf(1, 5));
        CheckEdges.refuses(ONE, Check.INDEX, x -> x.meetingOf(-1, -1));
    }

    // ---- promise 20

    static void isFreeIsOfAPersonZeroToNine() {
        CheckEdges.range(ONE, 0, 9, Check.INDEX, (x, person) -> x.isFree(person, 0));
    }

    static void isFreeIsOfASlotZeroTo399() {
        CheckEdges.range(ONE, 0, 399, Check.ARGUMENT, (x, slot) -> x.isFree(0, slot));
        CheckEdges.range(oneAt(400), 0, 399, Check.ARGUMENT, (x, slot) -> x.isFree(0, slot));
    }

    static void whoIsInAMeetingIsNotFreeInItsSlots() {
        Rigdiary x = CheckEdges.diary(ONE);
        for (int s = 0; s < 20; s++) {
            int slot = s;
            Check.is(s != 10 && s != 11, () -> x.isFree(1, slot));
            Check.is(true, () -> x.isFree(0, slot));
        }
        x.meeting(set(0, 9), 0, 1, NONE);
        x.meeting(set(0, 9), 399, 1, NONE);
        for (int slot : new int[] {0, 399}) {
            Check.is(false, () -> x.isFree(0, slot));
            Check.is(false, () -> x.isFree(9, slot));
            Check.is(true, () -> x.isFree(8, slot));
        }
    }

    static void whoIsInAMeetingIsFreeInAllItsSlotsOnceItIsOver() {
        Rigdiary x = CheckEdges.diary(oneAt(11));
        Check.is(false, () -> x.isFree(1, 10));
        Check.is(false, () -> x.isFree(1, 11));
        x.pass(1);
        Check.is(true, () -> x.isFree(1, 10));
        Check.is(true, () -> x.isFree(1, 11));
    }

    static void whoIsInAMeetingThatIsCancelledIsFree() {
        Rigdiary x = CheckEdges.diary(ONE);
        x.cancel(0);
        Check.is(true, () -> x.isFree(1, 10));
        Check.is(true, () -> x.isFree(1, 11));
    }

    static void whoIsOnLeaveIsNotFreeNorLater() {
        Rigdiary x = new Rigdiary();
        x.leave(9, 0, 0);
        passTo(x, 400);
        Check.is(false, () -> x.isFree(9, 0));
        Check.is(false, () -> x.isFree(9, 7));
        Check.is(true, () -> x.isFree(9, 8));
    }

    static void ofSeveralExceptionsIsFreeThrowsTheFirst() {
        CheckEdges.refuses(ONE, Check.INDEX, x -> x.isFree(10, 400));
        CheckEdges.refuses(ONE, Check.INDEX, x -> x.isFree(-1, -1));
    }
}
