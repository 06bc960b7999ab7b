/** Promises 11 to 14, 17, 18 and 21 at their edges: build, urge, pass, slot, buildOf, beganAnew, diary. */
public final class EdgesOfBuildsTest extends Ways {
    private static final CheckEdges.Story ONE = x -> {
        x.machine(0, 0);
        x.build(0, 5, 3);
    };
    private static final CheckEdges.Story FORTY = x -> {
        x.machine(0, 0);
        for (int i = 0; i < 40; i++) {
            x.build(0, 5, 1);
        }
    };

    public static void main(String[] args) {
        Check.all(EdgesOfBuildsTest.class);
    }

    private static CheckEdges.Story at(int slot) {
        return x -> {
            x.machine(0, 0);
            passTo(x, slot);
        };
    }

    private static CheckEdges.Story oneAt(int slot) {
        return x -> {
            ONE.tell(x);
            passTo(x, slot);
        };
    }

    /** In which slot the build 0 begins, of the length, once all slots have passed that there are until 100. */
    private static void begins(CheckEdges.Story story, int length, int due) {
        Rigdiary x = CheckEdges.diary(story);
        x.build(0, 0, length);
        passTo(x, 100);
        Check.is(due, () -> x.buildOf(0, 2));
        Check.is(due, () -> x.beganAnew(0));
        Check.is(Rigdiary.BUILT, () -> x.buildOf(0, 0));
    }

    // ---- promise 11

    static void needsAreZeroToFifteen() {
        CheckEdges.range(MACHINE, 0, 15, Check.ARGUMENT, (x, needs) -> x.build(needs, 0, 1));
    }

    static void urgencyIsZeroToNine() {
        CheckEdges.range(MACHINE, 0, 9, Check.ARGUMENT, (x, urgency) -> x.build(0, urgency, 1));
    }

    static void aBuildLastsOneToSixSlots() {
        CheckEdges.range(MACHINE, 1, 6, Check.ARGUMENT, (x, length) -> x.build(0, 0, length));
    }

    static void buildsAreNumberedFromZero() {
        Rigdiary x = new Rigdiary();
        for (int i = 0; i < 40; i++) {
            int number = i;
            Check.is(number, () -> x.build(0, 0, 1));
        }
    }

    static void aRefusedBuildTakesNoNumber() {
        Rigdiary x = new Rigdiary();
        Check.refuses(Check.ARGUMENT, () -> x.build(16, 0, 1));
        Check.is(0, () -> x.build(0, 0, 1));
        Check.refuses(Check.ARGUMENT, () -> x.build(0, 0, 7));
        Check.is(1, () -> x.build(0, 0, 1));
    }

    static void thereAreFortyBuildsAtMost() {
        CheckEdges.refuses(FORTY, Check.STATE, x -> x.build(0, 0, 1));
        CheckEdges.refuses(FORTY, Check.STATE, x -> x.build(15, 9, 6));
    }

    static void buildsThatAreBuiltCountToo() {
        CheckEdges.Story later = x -> {
            FORTY.tell(x);
            x.pass(50);
        };
        CheckEdges.answers(later, Rigdiary.BUILT, x -> x.buildOf(39, 0));
        CheckEdges.refuses(later, Check.STATE, x -> x.build(0, 0, 1));
    }

    static void theFortiethBuildIsOneAsTheOthers() {
        Rigdiary x = CheckEdges.diary(FORTY);
        Check.is(5, () -> x.urge(39, 6));
        x.pass(1);
        Check.is(Rigdiary.BUILT, () -> x.buildOf(39, 0));
        Check.is(0, () -> x.buildOf(39, 2));
        Check.is(0, () -> x.beganAnew(39));
        x.pass(39);
        Check.is(39, () -> x.buildOf(38, 2));
        Check.is(39, () -> x.beganAnew(38));
    }

    static void aBuildCanBeQueuedInTheSlot400() {
        Rigdiary x = CheckEdges.diary(at(400));
        Check.is(0, () -> x.build(0, 9, 1));
        Check.is(Rigdiary.QUEUED, () -> x.buildOf(0, 0));
        Check.is(NONE, () -> x.beganAnew(0));
        CheckEdges.outside(at(400), 1, 6, Check.ARGUMENT, (y, length) -> y.build(0, 0, length));
    }

    static void aBuildWithoutAMachineWaits() {
        Rigdiary x = new Rigdiary();
        x.build(0, 9, 1);
        passTo(x, 5);
        Check.is(Rigdiary.QUEUED, () -> x.buildOf(0, 0));
        x.machine(0, 0);
        x.pass(1);
        Check.is(5, () -> x.buildOf(0, 2));
        Check.is(5, () -> x.beganAnew(0));
    }

    static void ofSeveralExceptionsBuildThrowsTheFirst() {
        CheckEdges.refuses(FORTY, Check.ARGUMENT, x -> x.build(16, 0, 1));
        CheckEdges.refuses(FORTY, Check.ARGUMENT, x -> x.build(0, 10, 1));
        CheckEdges.refuses(FORTY, Check.ARGUMENT, x -> x.build(0, 0, 0));
    }

    // ---- promise 12

    static void whatIsUrgedIsABuildThatThereIs() {
        CheckEdges.range(ONE, 0, 0, Check.INDEX, (x, build) -> x.urge(build, 0));
        CheckEdges.range(FORTY, 0, 39, Check.INDEX, (x, build) -> x.urge(build, 0));
    }

    static void anUrgencyIsChangedToZeroToNine() {
        CheckEdges.range(ONE, 0, 9, Check.ARGUMENT, (x, urgency) -> x.urge(0, urgency));
    }

    static void urgeReturnsWhatItWas() {
        Rigdiary x = new Rigdiary();
        x.build(0, 0, 1);
        x.build(0, 9, 1);
        Check.is(0, () -> x.urge(0, 9));
        Check.is(9, () -> x.urge(1, 0));
        Check.is(9, () -> x.urge(0, 9));
        Check.is(0, () -> x.urge(1, 4));
        Check.is(4, () -> x.urge(1, 4));
    }

    static void aRefusedUrgencyIsNotWhatItWas() {
        Rigdiary x = CheckEdges.diary(ONE);
        Check.refuses(Check.ARGUMENT, () -> x.urge(0, 10));
        Check.is(5, () -> x.urge(0, 6));
    }

    static void aBuildThatRunsIsNotUrged() {
        CheckEdges.refuses(oneAt(1), Check.STATE, x -> x.urge(0, 5));
        CheckEdges.refuses(oneAt(2), Check.STATE, x -> x.urge(0, 9));
    }

    static void aBuildThatIsBuiltIsNotUrged() {
        CheckEdges.refuses(oneAt(3), Check.STATE, x -> x.urge(0, 9));
        CheckEdges.refuses(oneAt(400), Check.STATE, x -> x.urge(0, 9));
    }

    static void aBuildThatIsQueuedAgainIsUrged() {
        Rigdiary x = CheckEdges.diary(oneAt(2));
        x.breakDown(0, 1);
        Check.is(5, () -> x.urge(0, 9));
        Check.is(9, () -> x.urge(0, 0));
    }

    static void ofSeveralExceptionsUrgeThrowsTheFirst() {
        CheckEdges.refuses(oneAt(1), Check.INDEX, x -> x.urge(1, 10));
        CheckEdges.refuses(oneAt(1), Check.INDEX, x -> x.urge(-1, -1));
        CheckEdges.refuses(oneAt(1), Check.ARGUMENT, x -> x.urge(0, 10));
        CheckEdges.refuses(oneAt(1), Check.ARGUMENT, x -> x.urge(0, -1));
    }

    // ---- promises 13 and 14

    static void oneToFiftySlotsPass() {
        CheckEdges.range(ONE, 1, 50, Check.ARGUMENT, (x, slots) -> x.pass(slots));
        CheckEdges.range(at(350), 1, 50, Check.ARGUMENT, (x, slots) -> x.pass(slots));
    }

    static void passReturnsTheSlotThen() {
        Rigdiary x = new Rigdiary();
        Check.is(1, () -> x.pass(1));
        Check.is(1, () -> x.slot());
        Check.is(51, () -> x.pass(50));
        Check.is(51, () -> x.slot());
    }

    static void theSlot400IsTheLastOne() {
        CheckEdges.answers(at(350), 400, x -> x.pass(50));
        CheckEdges.answers(at(399), 400, x -> x.pass(1));
        CheckEdges.refuses(at(351), Check.STATE, x -> x.pass(50));
        CheckEdges.answers(at(351), 400, x -> x.pass(49));
        CheckEdges.refuses(at(399), Check.STATE, x -> x.pass(2));
        CheckEdges.refuses(at(400), Check.STATE, x -> x.pass(1));
        CheckEdges.refuses(at(400), Check.STATE, x -> x.pass(50));
        CheckEdges.answers(at(400), 400, x -> x.slot());
    }

    static void aRefusedPassLetsNoSlotPass() {
        CheckEdges.Story story = x -> {
            at(398).tell(x);
            x.build(0, 0, 1);
            x.meeting(1, 398, 1, NONE);
        };
        CheckEdges.refuses(story, Check.STATE, x -> x.pass(3));
        CheckEdges.answers(story, 398, x -> x.slot());
    }

    static void ofSeveralExceptionsPassThrowsTheFirst() {
        CheckEdges.outside(at(400), 1, 50, Check.ARGUMENT, (x, slots) -> x.pass(slots));
    }

    static void askingForTheSlotChangesNothing() {
        CheckEdges.changesNothing(oneAt(2), x -> x.slot());
    }

    // ---- which build begins

    static void aBuildRunsUntilItsLastSlotPassed() {
        for (int l = 1; l <= 6; l++) {
            Rigdiary x = CheckEdges.diary(MACHINE);
            x.build(0, 0, l);
            for (int s = 1; s <= 6; s++) {
                x.pass(1);
                Check.is(s < l ? Rigdiary.RUNS : Rigdiary.BUILT, () -> x.buildOf(0, 0));
                Check.is(0, () -> x.buildOf(0, 2));
                Check.is(1, () -> x.buildOf(0, 3));
            }
        }
    }

    static void theNextBuildBeginsInTheNextSlot() {
        for (int l = 1; l <= 6; l++) {
            int length = l;
            Rigdiary x = CheckEdges.diary(MACHINE);
            x.build(0, 0, length);
            x.build(0, 0, 1);
            x.pass(length);
            Check.is(Rigdiary.QUEUED, () -> x.buildOf(1, 0));
            x.pass(1);
            Check.is(length, () -> x.buildOf(1, 2));
        }
    }

    static void theMostUrgentOneBegins() {
        Rigdiary x = CheckEdges.diary(MACHINE);
        for (int i = 0; i < 10; i++) {
            x.build(0, i, 1);
        }
        x.pass(10);
        for (int i = 0; i < 10; i++) {
            int number = i;
            Check.is(9 - number, () -> x.buildOf(number, 2));
        }
    }

    static void ofSeveralTheLowestOneBegins() {
        Rigdiary x = CheckEdges.diary(MACHINE);
        x.build(0, 0, 1);
        for (int i = 1; i < 5; i++) {
            x.build(0, 9, 1);
        }
        x.pass(5);
        Check.is(4, () -> x.buildOf(0, 2));
        for (int i = 1; i < 5; i++) {
            int number = i;
            Check.is(number - 1, () -> x.buildOf(number, 2));
        }
    }

    static void machinesBeginByRisingNumbers() {
        Rigdiary x = new Rigdiary();
        for (int i = 0; i < 6; i++) {
            x.machine(0, 0);
        }
        for (int i = 0; i < 7; i++) {
            x.build(0, 9 - i, 2);
        }
        x.pass(1);
        for (int i = 0; i < 6; i++) {
            int number = i;
            Check.is(number, () -> x.buildOf(number, 1));
        }
        Check.is(NONE, () -> x.buildOf(6, 1));
    }

    static void onOneMachineOneBuildRuns() {
        Rigdiary x = CheckEdges.diary(oneAt(1));
        x.build(0, 9, 1);
        x.pass(2);
        Check.is(Rigdiary.BUILT, () -> x.buildOf(0, 0));
        Check.is(Rigdiary.QUEUED, () -> x.buildOf(1, 0));
        x.pass(1);
        Check.is(3, () -> x.buildOf(1, 2));
    }

    static void aMachineHasAllThatABuildNeeds() {
        for (int f = 0; f < 16; f++) {
            Rigdiary x = new Rigdiary();
            x.machine(f, 0);
            for (int n = 0; n < 16; n++) {
                x.build(n, 0, 1);
            }
            x.pass(16);
            for (int n = 0; n < 16; n++) {
                int number = n;
                boolean all = Integer.bitCount(n & f) == Integer.bitCount(n);
                Check.is(all ? Rigdiary.BUILT : Rigdiary.QUEUED, () -> x.buildOf(number, 0));
            }
        }
    }

    static void aShorterBuildBeginsWhereTheMoreUrgentOneCannot() {
        for (int free = 1; free <= 6; free++) {
            Rigdiary x = CheckEdges.diary(MACHINE);
            x.meeting(1, free, 1, 0);
            for (int l = 6; l >= 1; l--) {
                x.build(0, l, l);
            }
            x.pass(1);
            for (int l = 6; l >= 1; l--) {
                int number = 6 - l;
                Check.is(l == free ? 0 : NONE, () -> x.buildOf(number, 2));
            }
        }
    }

    // ---- what hinders a build

    static void aMeetingHindersABuildFromItsFirstSlotToItsLastOne() {
        for (int l = 1; l <= 6; l++) {
            for (int s = 0; s < 7; s++) {
                int slot = s;
                begins(x -> {
                    x.machine(0, 0);
                    x.meeting(1, slot, 1, 0);
                }, l, slot < l ? slot + 1 : 0);
            }
            begins(x -> {
                x.machine(0, 0);
                x.meeting(1, 4, 4, 0);
            }, l, l <= 4 ? 0 : 8);
        }
    }

    static void aMeetingWithAnotherMachineOrWithoutOneHindersNoBuild() {
        begins(x -> {
            x.machine(0, 0);
            x.machine(15, 0);
            x.meeting(1, 0, 4, 1);
            x.meeting(2, 0, 4, NONE);
        }, 6, 0);
    }

    static void aMeetingThatIsCancelledHindersNoBuild() {
        begins(x -> {
            x.machine(0, 0);
            x.meeting(1, 0, 4, 0);
            x.cancel(0);
        }, 6, 0);
    }

    static void aMeetingHindersABuildWhereItWasMoved() {
        begins(x -> {
            x.machine(0, 0);
            x.meeting(1, 0, 1, 0);
            x.move(0, 5);
        }, 6, 6);
        begins(x -> {
            x.machine(0, 0);
            x.meeting(1, 0, 1, 0);
            x.move(0, 6);
        }, 6, 0);
    }

    static void aMeetingHindersABuildWhereASwapBroughtIt() {
        begins(x -> {
            x.machine(0, 0);
            x.meeting(1, 0, 1, 0);
            x.meeting(1, 7, 1, NONE);
            x.swap(0, 1);
            x.agree(0, 0);
        }, 6, 0);
        begins(x -> {
            x.machine(0, 0);
            x.meeting(1, 7, 1, 0);
            x.meeting(1, 5, 1, NONE);
            x.swap(0, 1);
            x.agree(0, 0);
        }, 6, 6);
    }

    static void aMeetingOfABrokenMachineKeepsItsSlots() {
        Rigdiary x = CheckEdges.diary(MACHINE);
        x.meeting(1, 2, 2, 0);
        x.breakDown(0, 40);
        x.breakDown(0, 0);
        x.build(0, 0, 3);
        x.pass(5);
        Check.is(4, () -> x.buildOf(0, 2));
    }

    static void aBreakHindersABuildUntilItsLastSlot() {
        for (int n = 0; n <= 40; n += 8) {
            int slots = n;
            begins(x -> {
                x.machine(0, 0);
                x.breakDown(0, slots);
            }, 1, slots);
            begins(x -> {
                x.machine(0, 0);
                x.breakDown(0, slots);
            }, 6, slots);
        }
    }

    static void aLaterBreakHindersInPlaceOfTheOneAhead() {
        begins(x -> {
            x.machine(0, 0);
            x.breakDown(0, 40);
            x.pass(2);
            x.breakDown(0, 1);
        }, 6, 3);
        begins(x -> {
            x.machine(0, 0);
            x.breakDown(0, 1);
            x.pass(2);
            x.breakDown(0, 7);
        }, 6, 9);
    }

    static void leaveOfWhoHasTheMachineHindersABuildFromItsFirstSlotToItsLastOne() {
        for (int s = 0; s <= 8; s++) {
            for (int l = 1; l <= 6; l++) {
                int slot = s;
                begins(x -> {
                    x.machine(0, 7);
                    x.leave(7, 1, 1);
                    x.pass(slot + 1);
                }, l, slot + 1 + l <= 8 ? slot + 1 : 16);
            }
        }
    }

    static void leaveOfOthersHindersNoBuild() {
        begins(x -> {
            x.machine(0, 7);
            for (int p = 0; p < 10; p++) {
                if (p != 7) {
                    x.leave(p, 0, 49);
                }
            }
        }, 6, 0);
    }

    static void whoHasTheMachineIsAskedForInEachSlot() {
        begins(x -> {
            x.machine(0, 7);
            x.leave(7, 0, 0);
            x.lend(0, 8, 2, 5);
        }, 4, 2);
        begins(x -> {
            x.machine(0, 7);
            x.leave(7, 0, 0);
            x.lend(0, 8, 2, 5);
        }, 5, 8);
        begins(x -> {
            x.machine(0, 7);
            x.leave(8, 0, 0);
            x.lend(0, 8, 5, 5);
        }, 5, 0);
        begins(x -> {
            x.machine(0, 7);
            x.leave(8, 0, 0);
            x.lend(0, 8, 5, 5);
        }, 6, 6);
    }

    static void ofSeveralLoansTheLatestOneToldHinders() {
        begins(x -> {
            x.machine(0, 7);
            x.leave(8, 0, 0);
            x.lend(0, 8, 0, 7);
            x.lend(0, 7, 1, 6);
        }, 6, 1);
        begins(x -> {
            x.machine(0, 7);
            x.leave(8, 0, 0);
            x.lend(0, 7, 1, 6);
            x.lend(0, 8, 0, 7);
        }, 6, 8);
    }

    static void whatIsToldLaterDoesNotHinderABuildThatRuns() {
        Rigdiary x = CheckEdges.diary(MACHINE);
        x.build(0, 0, 6);
        x.pass(1);
        x.leave(0, 0, 1);
        x.lend(0, 9, 1, 9);
        x.leave(9, 0, 1);
        x.pass(5);
        Check.is(Rigdiary.BUILT, () -> x.buildOf(0, 0));
        Check.is(0, () -> x.beganAnew(0));
    }

    static void slotsFrom400OnHinderNothing() {
        for (int s = 394; s <= 399; s++) {
            for (int l = 1; l <= 6; l++) {
                int slot = s;
                Rigdiary x = CheckEdges.diary(at(slot));
                x.build(0, 0, l);
                x.pass(1);
                Check.is(slot, () -> x.buildOf(0, 2));
                Check.is(slot, () -> x.beganAnew(0));
                passTo(x, 400);
                Check.is(slot + l <= 400 ? Rigdiary.BUILT : Rigdiary.RUNS, () -> x.buildOf(0, 0));
            }
        }
    }

    static void slotsBelow400Hinder() {
        for (int length = 1; length <= 6; length++) {
            Rigdiary x = CheckEdges.diary(at(394));
            x.meeting(1, 399, 1, 0);
            x.build(0, 0, length);
            passTo(x, 400);
            Check.is(length <= 5 ? 394 : NONE, () -> x.buildOf(0, 2));
        }
        Rigdiary y = CheckEdges.diary(at(398));
        y.breakDown(0, 2);
        y.build(0, 0, 6);
        y.pass(2);
        Check.is(NONE, () -> y.buildOf(0, 2));
        Rigdiary z = CheckEdges.diary(at(399));
        z.leave(0, 49, 49);
        z.build(0, 0, 6);
        z.pass(1);
        Check.is(NONE, () -> z.buildOf(0, 2));
    }

    static void inTheSlot400NoBuildBegins() {
        Rigdiary x = CheckEdges.diary(at(399));
        x.build(0, 0, 1);
        x.build(0, 0, 1);
        x.pass(1);
        Check.is(399, () -> x.buildOf(0, 2));
        Check.is(NONE, () -> x.buildOf(1, 2));
        Check.is(NONE, () -> x.beganAnew(1));
    }

    // ---- promise 17

    static void buildOfIsOfABuildThatThereIs() {
        CheckEdges.range(ONE, 0, 0, Check.INDEX, (x, build) -> x.buildOf(build, 0));
        CheckEdges.range(FORTY, 0, 39, Check.INDEX, (x, build) -> x.buildOf(build, 0));
        CheckEdges.refuses(MACHINE, Check.INDEX, x -> x.buildOf(0, 0));
    }

    static void ofABuildFourThingsAreTold() {
        CheckEdges.range(ONE, 0, 3, Check.ARGUMENT, (x, what) -> x.buildOf(0, what));
    }

    static void ofABuildThatIsQueuedThereIsNoMachineAndNoSlot() {
        tells(ONE, Rigdiary.QUEUED, NONE, NONE, 0);
        tells(x -> {
            oneAt(2).tell(x);
            x.breakDown(0, 1);
        }, Rigdiary.QUEUED, NONE, NONE, 1);
    }

    static void ofABuildThatRunsThereAreBoth() {
        tells(oneAt(1), Rigdiary.RUNS, 0, 0, 1);
        tells(oneAt(2), Rigdiary.RUNS, 0, 0, 1);
    }

    static void ofABuildThatIsBuiltThereAreBothToo() {
        tells(oneAt(3), Rigdiary.BUILT, 0, 0, 1);
        tells(x -> {
            oneAt(3).tell(x);
            x.breakDown(0, 40);
        }, Rigdiary.BUILT, 0, 0, 1);
    }

    static void ofABuildThatBeganTwiceTheLastSlotIsTold() {
        tells(x -> {
            oneAt(2).tell(x);
            x.breakDown(0, 5);
            x.pass(6);
        }, Rigdiary.RUNS, 0, 7, 2);
        tells(x -> {
            oneAt(2).tell(x);
            x.machine(0, 0);
            x.breakDown(0, 5);
            x.pass(50);
        }, Rigdiary.BUILT, 1, 2, 2);
    }

    private static void tells(CheckEdges.Story story, int state, int machine, int slot, int times) {
        CheckEdges.answers(story, state, x -> x.buildOf(0, 0));
        CheckEdges.answers(story, machine, x -> x.buildOf(0, 1));
        CheckEdges.answers(story, slot, x -> x.buildOf(0, 2));
        CheckEdges.answers(story, times, x -> x.buildOf(0, 3));
        CheckEdges.answers(story, slot, x -> x.beganAnew(0));
    }

    static void ofSeveralExceptionsBuildOfThrowsTheFirst() {
        CheckEdges.refuses(ONE, Check.INDEX, x -> x.buildOf(1, 4));
        CheckEdges.refuses(ONE, Check.INDEX, x -> x.buildOf(-1, -1));
    }

    // ---- promise 18

    static void beganAnewIsOfABuildThatThereIs() {
        CheckEdges.range(oneAt(2), 0, 0, Check.INDEX, (x, build) -> x.beganAnew(build));
        CheckEdges.range(FORTY, 0, 39, Check.INDEX, (x, build) -> x.beganAnew(build));
        CheckEdges.refuses(MACHINE, Check.INDEX, x -> x.beganAnew(0));
    }

    static void aBuildCanBeginInTheFirstSlotAndInTheLastOne() {
        CheckEdges.answers(oneAt(1), 0, x -> x.beganAnew(0));
        CheckEdges.answers(x -> {
            at(399).tell(x);
            x.build(0, 0, 6);
            x.pass(1);
        }, 399, x -> x.beganAnew(0));
    }

    static void planningOnceMoreChangesNothing() {
        CheckEdges.Story story = x -> {
            ONE.tell(x);
            x.meeting(set(1), 5, 1, 0);
            x.meeting(set(2), 9, 2, NONE);
            x.swap(0, 1);
            x.agree(1, 0);
            x.lend(0, 3, 4, 9);
            x.pass(2);
            x.breakDown(0, 3);
            x.build(0, 7, 2);
        };
        CheckEdges.changesNothing(story, x -> x.beganAnew(0));
        CheckEdges.changesNothing(story, x -> x.beganAnew(1));
    }

    static void whatIsRefusedIsNotPlannedOnceMore() {
        Rigdiary x = CheckEdges.diary(ONE);
        Check.refuses(Check.ARGUMENT, () -> x.breakDown(0, 41));
        Check.refuses(Check.ARGUMENT, () -> x.leave(0, 0, 50));
        Check.refuses(Check.ARGUMENT, () -> x.meeting(1, 0, 5, 0));
        Check.refuses(Check.ARGUMENT, () -> x.lend(0, 1, 0, 400));
        Check.refuses(Check.ARGUMENT, () -> x.urge(0, 10));
        Check.refuses(Check.ARGUMENT, () -> x.pass(0));
        x.pass(1);
        Check.is(0, () -> x.beganAnew(0));
    }

    static void untilItsLastCallAnObjectPlansAllOnceMore() {
        Rigdiary x = CheckEdges.diary(MACHINE);
        for (int i = 1; i < 508; i++) {
            x.breakDown(0, 1 + i % 2);
        }
        x.breakDown(0, 0);
        x.build(0, 0, 6);
        x.pass(6);
        Check.is(0, () -> x.beganAnew(0));
        Rigdiary y = CheckEdges.diary(MACHINE);
        for (int i = 1; i < 509; i++) {
            y.breakDown(0, 40);
        }
        y.build(0, 0, 1);
        y.pass(1);
        Check.is(NONE, () -> y.beganAnew(0));
    }

    // ---- promise 21

    static void aDiaryIsOfAMachineThatThereIs() {
        CheckEdges.range(MACHINE, 0, 0, Check.INDEX, (x, machine) -> x.diary(machine, 0, 0));
        CheckEdges.range(x -> {
            for (int i = 0; i < 6; i++) {
                x.machine(0, 0);
            }
        }, 0, 5, Check.INDEX, (x, machine) -> x.diary(machine, 0, 0));
    }

    static void aDiaryIsOfADayZeroTo49() {
        CheckEdges.range(MACHINE, 0, 49, Check.ARGUMENT, (x, day) -> x.diary(0, day, 0));
        CheckEdges.range(at(400), 0, 49, Check.ARGUMENT, (x, day) -> x.diary(0, day, 0));
    }

    static void noCharIsAheadOfTheFirstOne() {
        CheckEdges.refuses(MACHINE, Check.INDEX, x -> x.diary(0, 0, -1));
        CheckEdges.refuses(MACHINE, Check.INDEX, x -> x.diary(0, 0, Integer.MIN_VALUE));
        CheckEdges.answers(MACHINE, '.', x -> x.diary(0, 0, 0));
    }

    static void behindTheLastCharIsZero() {
        Rigdiary x = CheckEdges.diary(MACHINE);
        Check.is('.', () -> x.diary(0, 0, 7));
        Check.is((char) 0, () -> x.diary(0, 0, 8));
        Check.is((char) 0, () -> x.diary(0, 0, 9));
        Check.is((char) 0, () -> x.diary(0, 49, Integer.MAX_VALUE));
        x.breakDown(0, 1);
        Check.is((char) 0xDD27, () -> x.diary(0, 0, 8));
        Check.is((char) 0, () -> x.diary(0, 0, 9));
        x.breakDown(0, 8);
        Check.is((char) 0xDD27, () -> x.diary(0, 0, 15));
        Check.is((char) 0, () -> x.diary(0, 0, 16));
        Check.is((char) 0, () -> x.diary(0, 0, Integer.MAX_VALUE));
    }

    static void aSignOfTwoCharsHasTheHighOneFirst() {
        Rigdiary x = CheckEdges.diary(MACHINE);
        x.breakDown(0, 40);
        for (int i = 0; i < 16; i++) {
            int at = i;
            Check.is((char) (i % 2 == 0 ? 0xD83D : 0xDD27), () -> x.diary(0, 4, at));
        }
    }

    static void theLastSlotIsTheFirstSign() {
        for (int s = 0; s < 8; s++) {
            Rigdiary x = CheckEdges.diary(MACHINE);
            x.meeting(1, s, 1, 0);
            x.meeting(1, 392 + s, 1, 0);
            String due = ".".repeat(7 - s).concat("M").concat(".".repeat(s));
            Check.is(due, () -> day(x, 0, 0));
            Check.is(due, () -> day(x, 0, 49));
            Check.is("........", () -> day(x, 0, 1));
            Check.is("........", () -> day(x, 0, 48));
        }
    }

    static void aMeetingIsShownAheadOfABreak() {
        Rigdiary x = CheckEdges.diary(MACHINE);
        x.meeting(1, 1, 1, 0);
        x.breakDown(0, 3);
        Check.is(".....".concat(BROKEN).concat("M").concat(BROKEN), () -> day(x, 0, 0));
        x.cancel(0);
        Check.is(".....".concat(BROKEN.repeat(3)), () -> day(x, 0, 0));
    }

    static void aMeetingIsShownUntilItIsOver() {
        Rigdiary x = CheckEdges.diary(MACHINE);
        x.meeting(1, 1, 2, 0);
        x.pass(2);
        Check.is(".....MM.", () -> day(x, 0, 0));
        x.pass(1);
        Check.is("........", () -> day(x, 0, 0));
    }

    static void aMeetingWithoutAMachineIsNotShown() {
        Rigdiary x = CheckEdges.diary(MACHINE);
        x.machine(0, 0);
        x.meeting(1, 0, 4, NONE);
        x.meeting(2, 4, 4, 1);
        Check.is("........", () -> day(x, 0, 0));
        Check.is("MMMM....", () -> day(x, 1, 0));
    }

    static void aBuildIsShownInAllItsSlotsWhileItRuns() {
        Rigdiary x = CheckEdges.diary(at(5));
        x.machine(0, 0);
        x.build(0, 0, 6);
        Check.is("........", () -> day(x, 0, 0));
        for (int i = 0; i < 5; i++) {
            x.pass(1);
            Check.is("BBB.....", () -> day(x, 0, 0));
            Check.is(".....BBB", () -> day(x, 0, 1));
            Check.is("........", () -> day(x, 1, 0));
        }
        x.pass(1);
        Check.is("........", () -> day(x, 0, 0));
        Check.is("........", () -> day(x, 0, 1));
    }

    static void aBuildThatRunsBeyondTheLastDayIsShownOnIt() {
        Rigdiary x = CheckEdges.diary(at(398));
        x.build(0, 0, 6);
        x.pass(2);
        Check.is("BB......", () -> day(x, 0, 49));
    }

    static void aBuildThatIsQueuedAgainIsNotShown() {
        Rigdiary x = CheckEdges.diary(oneAt(1));
        Check.is(".....BBB", () -> day(x, 0, 0));
        x.breakDown(0, 1);
        Check.is("......".concat(BROKEN).concat("."), () -> day(x, 0, 0));
    }

    static void aBreakThatReachesBeyondTheLastDayIsShownOnIt() {
        Rigdiary x = CheckEdges.diary(at(399));
        x.breakDown(0, 40);
        Check.is(BROKEN.concat("......."), () -> day(x, 0, 49));
    }

    static void ofSeveralExceptionsDiaryThrowsTheFirst() {
        CheckEdges.refuses(MACHINE, Check.INDEX, x -> x.diary(1, 50, 0));
        CheckEdges.refuses(MACHINE, Check.INDEX, x -> x.diary(-1, -1, 0));
        CheckEdges.refuses(MACHINE, Check.INDEX, x -> x.diary(0, 50, -1));
        CheckEdges.refuses(MACHINE, Check.INDEX, x -> x.diary(0, -1, -1));
    }
}
