/** Promises 9, 10 and 16 at their edges: swap, agree, swapOf, and what the terms say of swaps. */
public final class EdgesOfSwapsTest extends Ways {
    /** Person 0 in the slots 10 and 11, person 1 in the slot 20; person 2 is in no meeting. */
    private static final CheckEdges.Story TWO = x -> {
        x.machine(0, 0);
        x.meeting(set(0), 10, 2, NONE);
        x.meeting(set(1), 20, 1, NONE);
    };
    private static final CheckEdges.Story PROPOSED = x -> {
        TWO.tell(x);
        x.swap(0, 1);
    };
    private static final CheckEdges.Story TWENTY = x -> {
        TWO.tell(x);
        for (int i = 0; i < 20; i++) {
            x.swap(i % 2, 1 - i % 2);
        }
    };

    public static void main(String[] args) {
        Check.all(EdgesOfSwapsTest.class);
    }

    private static CheckEdges.Story then(CheckEdges.Story story, CheckEdges.Story more) {
        return x -> {
            story.tell(x);
            more.tell(x);
        };
    }

    /** What a swap of the first two meetings is, once all of both, which are persons 0 and 1, agreed. */
    private static int agreed(Rigdiary x) {
        int swap = x.swap(0, 1);
        x.agree(0, swap);
        return x.agree(1, swap);
    }

    /** The swap ends like this; if it is not DONE, both meetings stay where they were. */
    private static void swaps(CheckEdges.Story story, int due) {
        Rigdiary x = CheckEdges.diary(story);
        int first = x.meetingOf(0, 1);
        int second = x.meetingOf(1, 1);
        Check.is(due, () -> agreed(x));
        Check.is(due == Rigdiary.DONE ? second : first, () -> x.meetingOf(0, 1));
        Check.is(due == Rigdiary.DONE ? first : second, () -> x.meetingOf(1, 1));
    }

    /** Behind what is told, the swap that was proposed is refused, as soon as either person agrees. */
    private static void spoils(CheckEdges.Story more) {
        CheckEdges.Story story = then(PROPOSED, more);
        for (int p = 0; p < 2; p++) {
            int person = p;
            Rigdiary x = CheckEdges.diary(story);
            Check.is(Rigdiary.OPEN, () -> x.swapOf(0));
            int first = x.meetingOf(0, 1);
            int second = x.meetingOf(1, 1);
            Check.is(Rigdiary.REFUSED, () -> x.agree(person, 0));
            Check.is(Rigdiary.REFUSED, () -> x.swapOf(0));
            Check.is(first, () -> x.meetingOf(0, 1));
            Check.is(second, () -> x.meetingOf(1, 1));
        }
    }

    // ---- promise 9

    static void bothMeetingsAreSomeThatThereAre() {
        CheckEdges.range(TWO, 0, 1, Check.INDEX, (x, meeting) -> x.swap(meeting, meeting == 0 ? 1 : 0));
        CheckEdges.range(TWO, 0, 1, Check.INDEX, (x, other) -> x.swap(other == 0 ? 1 : 0, other));
    }

    static void aMeetingIsNotSwappedWithItself() {
        CheckEdges.refuses(TWO, Check.ARGUMENT, x -> x.swap(0, 0));
        CheckEdges.refuses(TWO, Check.ARGUMENT, x -> x.swap(1, 1));
    }

    static void aMeetingThatIsCancelledIsNotSwapped() {
        CheckEdges.Story cancelled = then(TWO, x -> x.cancel(1));
        CheckEdges.refuses(cancelled, Check.STATE, x -> x.swap(0, 1));
        CheckEdges.refuses(cancelled, Check.STATE, x -> x.swap(1, 0));
    }

    static void aMeetingIsSwappedUntilItHasBegun() {
        CheckEdges.answers(then(TWO, x -> x.pass(10)), 0, x -> x.swap(0, 1));
        CheckEdges.answers(then(TWO, x -> x.pass(10)), 0, x -> x.swap(1, 0));
        CheckEdges.refuses(then(TWO, x -> x.pass(11)), Check.STATE, x -> x.swap(0, 1));
        CheckEdges.refuses(then(TWO, x -> x.pass(11)), Check.STATE, x -> x.swap(1, 0));
    }

    static void aMeetingThatIsOverIsNotSwapped() {
        CheckEdges.refuses(then(TWO, x -> x.pass(12)), Check.STATE, x -> x.swap(0, 1));
        CheckEdges.refuses(then(TWO, x -> x.pass(12)), Check.STATE, x -> x.swap(1, 0));
        CheckEdges.refuses(then(TWO, x -> passTo(x, 400)), Check.STATE, x -> x.swap(0, 1));
    }

    static void swapsAreNumberedFromZero() {
        Rigdiary x = CheckEdges.diary(TWO);
        for (int i = 0; i < 20; i++) {
            int number = i;
            Check.is(number, () -> x.swap(0, 1));
        }
    }

    static void aRefusedProposalTakesNoNumber() {
        Rigdiary x = CheckEdges.diary(TWO);
        Check.refuses(Check.INDEX, () -> x.swap(0, 2));
        Check.refuses(Check.ARGUMENT, () -> x.swap(0, 0));
        x.meeting(set(2), 30, 1, NONE);
        x.cancel(2);
        Check.refuses(Check.STATE, () -> x.swap(0, 2));
        Check.is(0, () -> x.swap(0, 1));
    }

    static void thereAreTwentySwapsAtMost() {
        CheckEdges.refuses(TWENTY, Check.STATE, x -> x.swap(0, 1));
        CheckEdges.refuses(TWENTY, Check.STATE, x -> x.swap(1, 0));
    }

    static void swapsThatAreDoneOrRefusedCountToo() {
        CheckEdges.Story ended = then(TWENTY, x -> {
            for (int i = 0; i < 20; i++) {
                x.agree(0, i);
            }
            x.agree(1, 3);
            for (int i = 4; i < 20; i++) {
                x.agree(1, i);
            }
        });
        CheckEdges.refuses(ended, Check.STATE, x -> x.swap(0, 1));
    }

    static void theTwentiethSwapIsOneAsTheOthers() {
        Rigdiary x = CheckEdges.diary(TWENTY);
        Check.is(Rigdiary.OPEN, () -> x.swapOf(19));
        Check.is(Rigdiary.OPEN, () -> x.agree(1, 19));
        Check.is(Rigdiary.DONE, () -> x.agree(0, 19));
        Check.is(Rigdiary.DONE, () -> x.swapOf(19));
        Check.is(20, () -> x.meetingOf(0, 1));
        Check.is(10, () -> x.meetingOf(1, 1));
        Check.is(Rigdiary.OPEN, () -> x.swapOf(18));
        Check.is(Rigdiary.REFUSED, () -> x.agree(1, 18));
    }

    static void aProposalMovesNothing() {
        Rigdiary x = CheckEdges.diary(PROPOSED);
        Check.is(10, () -> x.meetingOf(0, 1));
        Check.is(20, () -> x.meetingOf(1, 1));
    }

    static void ofSeveralExceptionsSwapThrowsTheFirst() {
        CheckEdges.Story cancelled = then(TWENTY, x -> x.cancel(0));
        CheckEdges.refuses(cancelled, Check.INDEX, x -> x.swap(2, 2));
        CheckEdges.refuses(cancelled, Check.INDEX, x -> x.swap(-1, -1));
        CheckEdges.refuses(cancelled, Check.INDEX, x -> x.swap(0, 2));
        CheckEdges.refuses(cancelled, Check.INDEX, x -> x.swap(2, 0));
        CheckEdges.refuses(cancelled, Check.ARGUMENT, x -> x.swap(0, 0));
        CheckEdges.refuses(TWENTY, Check.ARGUMENT, x -> x.swap(1, 1));
        CheckEdges.refuses(then(TWO, x -> x.pass(11)), Check.ARGUMENT, x -> x.swap(0, 0));
    }

    // ---- promise 10

    static void whoAgreesIsAPersonZeroToNine() {
        CheckEdges.Story all = x -> {
            x.meeting(1023, 10, 1, NONE);
            x.meeting(1023, 20, 1, NONE);
            x.swap(0, 1);
        };
        CheckEdges.range(all, 0, 9, Check.INDEX, (x, person) -> x.agree(person, 0));
    }

    static void whatIsAgreedToIsASwapThatThereIs() {
        CheckEdges.range(PROPOSED, 0, 0, Check.INDEX, (x, swap) -> x.agree(0, swap));
        CheckEdges.range(TWENTY, 0, 19, Check.INDEX, (x, swap) -> x.agree(0, swap));
        CheckEdges.refuses(TWO, Check.INDEX, x -> x.agree(0, 0));
    }

    static void whoIsInNeitherMeetingDoesNotAgree() {
        for (int p = 2; p < 10; p++) {
            int person = p;
            CheckEdges.refuses(PROPOSED, Check.STATE, x -> x.agree(person, 0));
        }
    }

    static void whoIsInNeitherMeetingDoesNotEndASwapThatHoldsNoMore() {
        CheckEdges.refuses(then(PROPOSED, x -> x.move(0, 10)), Check.STATE, x -> x.agree(2, 0));
        CheckEdges.refuses(then(PROPOSED, x -> x.cancel(0)), Check.STATE, x -> x.agree(9, 0));
    }

    static void nobodyAgreesToASwapThatIsDone() {
        CheckEdges.Story done = then(TWO, x -> agreed(x));
        CheckEdges.refuses(done, Check.STATE, x -> x.agree(0, 0));
        CheckEdges.refuses(done, Check.STATE, x -> x.agree(1, 0));
        CheckEdges.refuses(done, Check.STATE, x -> x.agree(2, 0));
    }

    static void nobodyAgreesToASwapThatIsRefused() {
        CheckEdges.Story refused = then(PROPOSED, x -> {
            x.move(0, 10);
            x.agree(1, 0);
        });
        CheckEdges.refuses(refused, Check.STATE, x -> x.agree(0, 0));
        CheckEdges.refuses(refused, Check.STATE, x -> x.agree(1, 0));
    }

    static void ofSeveralExceptionsAgreeThrowsTheFirst() {
        CheckEdges.Story done = then(TWO, x -> agreed(x));
        CheckEdges.refuses(done, Check.INDEX, x -> x.agree(10, 0));
        CheckEdges.refuses(done, Check.INDEX, x -> x.agree(-1, 0));
        CheckEdges.refuses(done, Check.INDEX, x -> x.agree(2, 1));
    }

    // ---- who agrees

    static void aSwapIsOpenUntilTheLastOneAgrees() {
        Rigdiary x = new Rigdiary();
        x.meeting(1023, 10, 1, NONE);
        x.meeting(set(0, 9), 20, 1, NONE);
        x.swap(1, 0);
        for (int p = 9; p > 0; p--) {
            int person = p;
            Check.is(Rigdiary.OPEN, () -> x.agree(person, 0));
            Check.is(10, () -> x.meetingOf(0, 1));
        }
        Check.is(Rigdiary.DONE, () -> x.agree(0, 0));
        Check.is(20, () -> x.meetingOf(0, 1));
        Check.is(10, () -> x.meetingOf(1, 1));
    }

    static void whoAgreesTwiceAgreesOnce() {
        Rigdiary x = CheckEdges.diary(PROPOSED);
        Check.is(Rigdiary.OPEN, () -> x.agree(0, 0));
        Check.is(Rigdiary.OPEN, () -> x.agree(0, 0));
        Check.is(Rigdiary.DONE, () -> x.agree(1, 0));
    }

    static void whoIsInBothMeetingsAgreesOnce() {
        Rigdiary x = new Rigdiary();
        x.meeting(set(4), 10, 1, NONE);
        x.meeting(set(4), 20, 1, NONE);
        x.swap(0, 1);
        Check.is(Rigdiary.DONE, () -> x.agree(4, 0));
    }

    static void whoAgreedToOneSwapDidNotAgreeToAnotherOne() {
        Rigdiary x = CheckEdges.diary(PROPOSED);
        x.swap(0, 1);
        Check.is(Rigdiary.OPEN, () -> x.agree(0, 0));
        Check.is(Rigdiary.OPEN, () -> x.agree(1, 1));
        Check.is(10, () -> x.meetingOf(0, 1));
    }

    // ---- whether both can be there

    static void theyComeToOneAnothersSlotsWithAllElseTheirOwn() {
        Rigdiary x = CheckEdges.diary(MACHINE);
        x.meeting(set(0, 2), 0, 4, 0);
        x.meeting(set(1), 396, 1, NONE);
        x.swap(0, 1);
        x.agree(0, 0);
        x.agree(1, 0);
        Check.is(Rigdiary.DONE, () -> x.agree(2, 0));
        int[][] due = {{Rigdiary.SET, 396, 4, 0, set(0, 2)}, {Rigdiary.SET, 0, 1, NONE, set(1)}};
        for (int i = 0; i < 2; i++) {
            for (int w = 0; w < 5; w++) {
                int meeting = i;
                int what = w;
                Check.is(due[i][w], () -> x.meetingOf(meeting, what));
            }
        }
        Check.is("MMMM....", () -> day(x, 0, 49));
    }

    static void aSwapIsRefusedWhereOneIsNotOnOneDay() {
        for (int s = 16; s < 24; s++) {
            for (int l = 1; l <= 4; l++) {
                int slot = s;
                int length = l;
                CheckEdges.Story story = x -> {
                    x.meeting(set(0), 0, length, NONE);
                    x.meeting(set(1), slot, 1, NONE);
                };
                swaps(story, isOneDay(s, l) ? Rigdiary.DONE : Rigdiary.REFUSED);
            }
        }
    }

    static void aSwapIsRefusedWhereSomebodyHasAnotherMeeting() {
        for (int s = 16; s < 24; s++) {
            int slot = s;
            swaps(then(TWO, x -> x.meeting(set(0), slot, 1, NONE)),
                    overlap(s, 1, 20, 2) ? Rigdiary.REFUSED : Rigdiary.DONE);
            swaps(then(TWO, x -> x.meeting(set(1), slot - 8, 1, NONE)),
                    overlap(s - 8, 1, 10, 1) ? Rigdiary.REFUSED : Rigdiary.DONE);
        }
    }

    static void aSwapIsDoneWhereThatOtherMeetingIsCancelled() {
        swaps(then(TWO, x -> {
            x.meeting(set(0), 20, 1, NONE);
            x.cancel(2);
        }), Rigdiary.DONE);
    }

    static void aSwapIsRefusedWhereAMachineIsPromisedToAThirdMeeting() {
        for (int s = 16; s < 24; s++) {
            int slot = s;
            swaps(x -> {
                x.machine(0, 0);
                x.meeting(set(0), 10, 2, 0);
                x.meeting(set(1), 20, 1, NONE);
                x.meeting(set(2), slot, 1, 0);
            }, overlap(s, 1, 20, 2) ? Rigdiary.REFUSED : Rigdiary.DONE);
        }
    }

    static void aSwapIsRefusedWhereSomebodyIsOnLeave() {
        for (int d = 0; d < 4; d++) {
            int day = d;
            swaps(then(TWO, x -> {
                if (day != 1) {
                    x.leave(0, day, day);
                }
            }), d == 2 ? Rigdiary.REFUSED : Rigdiary.DONE);
            swaps(then(TWO, x -> {
                if (day != 2) {
                    x.leave(1, day, day);
                }
            }), d == 1 ? Rigdiary.REFUSED : Rigdiary.DONE);
        }
    }

    static void aSwapIsRefusedWhereAMachineIsBroken() {
        for (int n = 0; n <= 6; n++) {
            int slots = n;
            swaps(x -> {
                x.machine(0, 0);
                x.meeting(set(0), 13, 2, 0);
                x.meeting(set(1), 20, 1, 0);
                passTo(x, 12);
                x.breakDown(0, slots);
            }, slots >= 2 ? Rigdiary.REFUSED : Rigdiary.DONE);
        }
    }

    static void aSwapIsRefusedWhereABuildRuns() {
        for (int l = 1; l <= 6; l++) {
            int length = l;
            swaps(x -> {
                x.machine(0, 0);
                x.meeting(set(0), 4, 1, NONE);
                x.meeting(set(1), 20, 1, 0);
                x.build(0, 0, length);
                x.pass(1);
            }, length >= 5 ? Rigdiary.REFUSED : Rigdiary.DONE);
        }
    }

    static void bothAreInTheirNewSlotsAtOnce() {
        CheckEdges.Story neighbours = x -> {
            x.meeting(set(0, 1), 10, 2, NONE);
            x.meeting(set(0, 1), 12, 2, NONE);
        };
        swaps(neighbours, Rigdiary.DONE);
        CheckEdges.Story shorter = x -> {
            x.meeting(set(0, 1), 10, 1, NONE);
            x.meeting(set(0, 1), 11, 2, NONE);
        };
        swaps(shorter, Rigdiary.REFUSED);
        CheckEdges.Story longer = x -> {
            x.meeting(set(0, 1), 10, 2, NONE);
            x.meeting(set(0, 1), 12, 1, NONE);
        };
        swaps(longer, Rigdiary.DONE);
    }

    static void ofOneMachineTheyAreNotInOneAnothersWayWhereTheyWere() {
        swaps(x -> {
            x.machine(0, 0);
            x.meeting(set(0), 10, 2, 0);
            x.meeting(set(1), 12, 2, 0);
        }, Rigdiary.DONE);
        swaps(x -> {
            x.machine(0, 0);
            x.meeting(set(0), 10, 1, 0);
            x.meeting(set(1), 11, 2, 0);
        }, Rigdiary.REFUSED);
    }

    static void meetingsOfOneSlotAreSwappedToo() {
        swaps(x -> {
            x.meeting(set(0), 10, 1, NONE);
            x.meeting(set(1), 10, 4, NONE);
        }, Rigdiary.DONE);
    }

    static void whetherTheyCanIsAskedWhenTheLastOneAgrees() {
        Rigdiary x = CheckEdges.diary(PROPOSED);
        x.leave(0, 2, 2);
        Check.is(Rigdiary.OPEN, () -> x.agree(0, 0));
        Check.is(Rigdiary.OPEN, () -> x.swapOf(0));
        Check.is(Rigdiary.REFUSED, () -> x.agree(1, 0));
        Check.is(Rigdiary.REFUSED, () -> x.swapOf(0));
    }

    static void aSwapIsDoneInTheSlotInWhichAMeetingBegins() {
        swaps(then(TWO, x -> x.pass(10)), Rigdiary.DONE);
    }

    // ---- swaps that hold no more

    static void aSwapOfAMeetingThatIsCancelledIsRefused() {
        spoils(x -> x.cancel(0));
        spoils(x -> x.cancel(1));
    }

    static void aSwapOfAMeetingThatHasBegunIsRefused() {
        spoils(x -> x.pass(11));
        CheckEdges.answers(then(PROPOSED, x -> x.pass(10)), Rigdiary.OPEN, x -> x.agree(0, 0));
    }

    static void aSwapWhoseSecondMeetingHasBegunIsRefused() {
        for (int slot = 10; slot <= 12; slot++) {
            int now = slot;
            CheckEdges.Story reversed = x -> {
                TWO.tell(x);
                x.swap(1, 0);
                x.pass(now);
            };
            CheckEdges.answers(reversed, now == 10 ? Rigdiary.OPEN : Rigdiary.REFUSED, x -> x.agree(1, 0));
        }
    }

    static void aSwapOfAMeetingThatIsOverIsRefused() {
        spoils(x -> x.pass(12));
        spoils(x -> passTo(x, 400));
    }

    static void aSwapOfAMeetingThatWasMovedIsRefused() {
        spoils(x -> x.move(0, 30));
        spoils(x -> x.move(1, 30));
    }

    static void aSwapOfAMeetingThatWasMovedToTheSlotThatItHadIsRefused() {
        spoils(x -> x.move(0, 10));
        spoils(x -> x.move(1, 20));
    }

    static void aSwapOfAMeetingThatWasMovedAwayAndBackIsRefused() {
        spoils(x -> {
            x.move(0, 30);
            x.move(0, 10);
        });
        spoils(x -> {
            x.move(1, 30);
            x.move(1, 20);
        });
    }

    static void aSwapOfAMeetingThatCouldNotBeMovedHolds() {
        Rigdiary x = CheckEdges.diary(PROPOSED);
        x.leave(0, 3, 3);
        x.leave(1, 3, 3);
        Check.is(false, () -> x.move(0, 24));
        Check.is(false, () -> x.move(1, 24));
        Check.refuses(Check.ARGUMENT, () -> x.move(0, 400));
        Check.is(Rigdiary.OPEN, () -> x.agree(0, 0));
        Check.is(Rigdiary.DONE, () -> x.agree(1, 0));
    }

    static void aSwapOfAMeetingThatAnotherSwapMovedIsRefused() {
        spoils(x -> agreed(x));
        spoils(x -> {
            agreed(x);
            agreed(x);
        });
    }

    static void aSwapSpoilsThoseOfEachOfItsMeetings() {
        CheckEdges.Story third = x -> {
            TWO.tell(x);
            x.meeting(set(2), 30, 1, NONE);
        };
        for (int meeting = 0; meeting < 2; meeting++) {
            int spoilt = meeting;
            for (int side = 0; side < 2; side++) {
                int first = side == 0 ? spoilt : 2;
                int second = side == 0 ? 2 : spoilt;
                Rigdiary x = CheckEdges.diary(third);
                x.swap(first, second);
                Check.is(Rigdiary.DONE, () -> agreed(x));
                Check.is(Rigdiary.OPEN, () -> x.swapOf(0));
                Check.is(Rigdiary.REFUSED, () -> x.agree(2, 0));
            }
        }
    }

    static void aSwapOfMeetingsThatAnotherSwapLeftInTheSlotThatTheyHadIsRefused() {
        CheckEdges.Story sameSlot = x -> {
            x.meeting(set(0), 10, 1, NONE);
            x.meeting(set(1), 10, 1, NONE);
            x.swap(0, 1);
        };
        for (int p = 0; p < 2; p++) {
            int person = p;
            CheckEdges.answers(then(sameSlot, x -> agreed(x)), Rigdiary.REFUSED, x -> x.agree(person, 0));
        }
    }

    static void aSwapWhoseMeetingsAnotherRefusedSwapHasHolds() {
        Rigdiary x = CheckEdges.diary(PROPOSED);
        x.leave(0, 2, 2);
        Check.is(Rigdiary.REFUSED, () -> agreed(x));
        x.meeting(set(2), 30, 1, NONE);
        Check.is(2, () -> x.swap(0, 2));
        Check.is(Rigdiary.OPEN, () -> x.agree(0, 0));
        Check.is(Rigdiary.OPEN, () -> x.agree(0, 2));
        Check.is(Rigdiary.DONE, () -> x.agree(2, 2));
        Check.is(30, () -> x.meetingOf(0, 1));
    }

    static void aSwapThatIsProposedBehindTheMoveHolds() {
        Rigdiary x = CheckEdges.diary(then(TWO, y -> y.move(0, 10)));
        Check.is(Rigdiary.DONE, () -> agreed(x));
        Check.is(Rigdiary.DONE, () -> agreed(x));
        Check.is(10, () -> x.meetingOf(0, 1));
    }

    static void ifAllButOneAgreedTheMoveSpoilsItToo() {
        Rigdiary x = CheckEdges.diary(PROPOSED);
        Check.is(Rigdiary.OPEN, () -> x.agree(0, 0));
        x.move(1, 20);
        Check.is(Rigdiary.OPEN, () -> x.swapOf(0));
        Check.is(Rigdiary.REFUSED, () -> x.agree(1, 0));
        Check.is(10, () -> x.meetingOf(0, 1));
    }

    static void whoAgreedAlreadyRefusesItToo() {
        Rigdiary x = CheckEdges.diary(PROPOSED);
        Check.is(Rigdiary.OPEN, () -> x.agree(0, 0));
        x.move(1, 20);
        Check.is(Rigdiary.REFUSED, () -> x.agree(0, 0));
    }

    static void untilSomebodyAgreesASwapIsOpen() {
        Rigdiary x = CheckEdges.diary(PROPOSED);
        x.cancel(0);
        passTo(x, 400);
        Check.is(Rigdiary.OPEN, () -> x.swapOf(0));
        Check.is(Rigdiary.REFUSED, () -> x.agree(0, 0));
    }

    // ---- promise 16

    static void swapOfIsOfASwapThatThereIs() {
        CheckEdges.range(PROPOSED, 0, 0, Check.INDEX, (x, swap) -> x.swapOf(swap));
        CheckEdges.range(TWENTY, 0, 19, Check.INDEX, (x, swap) -> x.swapOf(swap));
        CheckEdges.refuses(TWO, Check.INDEX, x -> x.swapOf(0));
    }

    static void howASwapIsIsOneOfThree() {
        Rigdiary x = CheckEdges.diary(TWO);
        x.swap(0, 1);
        agreed(x);
        x.swap(0, 1);
        x.agree(0, 0);
        Check.is(Rigdiary.REFUSED, () -> x.swapOf(0));
        Check.is(Rigdiary.DONE, () -> x.swapOf(1));
        Check.is(Rigdiary.OPEN, () -> x.swapOf(2));
    }
}
