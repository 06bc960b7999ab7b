/** A diary of test machines: meetings, builds, leave, loans, breakdowns and swaps, slot by slot. */
public final class Rigdiary {
    public static final int NONE = -1;
    public static final int SET = 0, CANCELLED = 1, OVER = 2;
    public static final int OPEN = 0, DONE = 1, REFUSED = 2;
    public static final int QUEUED = 0, RUNS = 1, BUILT = 2;

    private static final int SLOTS = 400, SLOTS_OF_DAY = 8, DAYS = 50;
    private static final int PEOPLE = 10, ALL_PEOPLE = 1023;
    private static final int ALL_FEATURES = 15;
    private static final int MACHINES = 6, LOANS = 20, MEETINGS = 30, SWAPS = 20, BUILDS = 40;
    private static final int LONGEST_MEETING = 4, LONGEST_BUILD = 6, LONGEST_BREAK = 40;
    private static final int MOST_URGENT = 9;
    private static final int LONGEST_PASS = 50;

    /** An object is used for at most 512 calls, and a call tells one thing at most. */
    private static final int MOST_TOLD = 512;

    /** What can be told that a plan depends on. */
    private static final int A_MACHINE = 0, A_LEAVE = 1, A_LOAN = 2, A_BREAK = 3, A_MEETING = 4,
            A_MOVE = 5, A_CANCEL = 6, A_SWAP = 7, A_BUILD = 8, AN_URGE = 9;

    private static final char MEETING_SIGN = 'M', BUILD_SIGN = 'B', FREE_SIGN = '.';
    /** The two chars of the sign 1F527. */
    private static final char BROKEN_HIGH = (char) 0xD83D, BROKEN_LOW = (char) 0xDD27;

    private final Plan plan;
    /** The rows in which all is planned once more: made once, as every call would make them anew. */
    private final Plan again;
    private final Told told;
    private final Swaps swaps;

    public Rigdiary() {
        plan = new Plan();
        again = new Plan();
        told = new Told();
        swaps = new Swaps();
    }

    // ---- people, machines

    public int machine(int features, int owner)
            throws IndexOutOfBoundsException, IllegalArgumentException, IllegalStateException {
        needPerson(owner);
        needRange(features, 0, ALL_FEATURES);
        int number = plan.machines.count;
        needState(number < MACHINES);
        tell(A_MACHINE, features, owner, 0, 0);
        return number;
    }

    public void leave(int person, int from, int to)
            throws IndexOutOfBoundsException, IllegalArgumentException, IllegalStateException {
        needPerson(person);
        needRange(from, plan.slot / SLOTS_OF_DAY, DAYS - 1);
        needRange(to, from, DAYS - 1);
        int slots = (to - from + 1) * SLOTS_OF_DAY;
        needState(!isIn(person, plan.meetings.busyPeople(from * SLOTS_OF_DAY, slots, NONE)));
        tell(A_LEAVE, person, from, to, 0);
    }

    public void lend(int machine, int person, int from, int to)
            throws IndexOutOfBoundsException, IllegalArgumentException, IllegalStateException {
        needMachine(machine);
        needPerson(person);
        needRange(from, plan.slot, SLOTS - 1);
        needRange(to, from, SLOTS - 1);
        needState(plan.loans.count < LOANS);
        tell(A_LOAN, machine, person, from, to);
    }

    public int breakDown(int machine, int slots)
            throws IndexOutOfBoundsException, IllegalArgumentException {
        needMachine(machine);
        needRange(slots, 0, LONGEST_BREAK);
        int stopped = slots > 0 ? plan.machines.runs[machine] : NONE;
        tell(A_BREAK, machine, slots, 0, 0);
        return stopped;
    }

    // ---- meetings

    public int meeting(int people, int slot, int length, int machine)
            throws IndexOutOfBoundsException, IllegalArgumentException, IllegalStateException {
        if (machine != NONE) {
            needMachine(machine);
        }
        needRange(people, 1, ALL_PEOPLE);
        needRange(slot, plan.slot, SLOTS - 1);
        needRange(length, 1, LONGEST_MEETING);
        needOneDay(slot, length);
        int number = plan.meetings.count;
        needState(number < MEETINGS);
        needState(plan.hasRoom(people, slot, length, machine, NONE));
        tell(A_MEETING, people, slot, length, machine);
        return number;
    }

    public boolean move(int meeting, int slot)
            throws IndexOutOfBoundsException, IllegalArgumentException, IllegalStateException {
        needMeeting(meeting);
        needRange(slot, plan.slot, SLOTS - 1);
        needOneDay(slot, plan.meetings.length[meeting]);
        needState(plan.isAhead(meeting));
        boolean can = plan.canBe(meeting, slot);
        if (can) {
            tell(A_MOVE, meeting, slot, 0, 0);
        }
        return can;
    }

    public void cancel(int meeting) throws IndexOutOfBoundsException, IllegalStateException {
        needMeeting(meeting);
        needState(plan.isAhead(meeting));
        tell(A_CANCEL, meeting, 0, 0, 0);
    }

    public int swap(int meeting, int other)
            throws IndexOutOfBoundsException, IllegalArgumentException, IllegalStateException {
        needMeeting(meeting);
        needMeeting(other);
        if (meeting == other) {
            throw new IllegalArgumentException("a swap is of two meetings");
        }
        needState(plan.isAhead(meeting));
        needState(plan.isAhead(other));
        int number = swaps.count;
        needState(number < SWAPS);
        swaps.add(meeting, plan.meetings.moves[meeting], other, plan.meetings.moves[other]);
        return number;
    }

    public int agree(int person, int swap) throws IndexOutOfBoundsException, IllegalStateException {
        needPerson(person);
        needSwap(swap);
        needState(swaps.state[swap] == OPEN);
        int all = plan.meetings.peopleOf(swaps.meeting[swap]) | plan.meetings.peopleOf(swaps.other[swap]);
        needState(isIn(person, all));
        swaps.agreed[swap] |= 1 << person;
        if (!holds(swap)) {
            swaps.state[swap] = REFUSED;
        } else if (swaps.agreed[swap] == all) {
            settle(swap);
        }
        return swaps.state[swap];
    }

    // ---- builds, slots

    public int build(int needs, int urgency, int length)
            throws IllegalArgumentException, IllegalStateException {
        needRange(needs, 0, ALL_FEATURES);
        needRange(urgency, 0, MOST_URGENT);
        needRange(length, 1, LONGEST_BUILD);
        int number = plan.builds.count;
        needState(number < BUILDS);
        tell(A_BUILD, needs, urgency, length, 0);
        return number;
    }

    public int urge(int build, int urgency)
            throws IndexOutOfBoundsException, IllegalArgumentException, IllegalStateException {
        needBuild(build);
        needRange(urgency, 0, MOST_URGENT);
        needState(plan.builds.state[build] == QUEUED);
        int was = plan.builds.urgency[build];
        tell(AN_URGE, build, urgency, 0, 0);
        return was;
    }

    public int pass(int slots) throws IllegalArgumentException, IllegalStateException {
        needRange(slots, 1, LONGEST_PASS);
        needState(plan.slot + slots <= SLOTS);
        plan.passTo(plan.slot + slots);
        return plan.slot;
    }

    // ---- what is asked

    public int slot() {
        return plan.slot;
    }

    public int meetingOf(int meeting, int what) throws IndexOutOfBoundsException, IllegalArgumentException {
        needMeeting(meeting);
        switch (what) {
            case 0:
                return plan.meetings.state[meeting];
            case 1:
                return plan.meetings.slot[meeting];
            case 2:
                return plan.meetings.length[meeting];
            case 3:
                return plan.meetings.machine[meeting];
            case 4:
                return plan.meetings.people[meeting];
            default:
                throw new IllegalArgumentException("nothing of a meeting has this number");
        }
    }

    public int swapOf(int swap) throws IndexOutOfBoundsException {
        needSwap(swap);
        return swaps.state[swap];
    }

    public int buildOf(int build, int what) throws IndexOutOfBoundsException, IllegalArgumentException {
        needBuild(build);
        switch (what) {
            case 0:
                return plan.builds.state[build];
            case 1:
                return plan.builds.machine[build];
            case 2:
                return plan.builds.began[build];
            case 3:
                return plan.builds.times[build];
            default:
                throw new IllegalArgumentException("nothing of a build has this number");
        }
    }

    public int beganAnew(int build) throws IndexOutOfBoundsException {
        needBuild(build);
        planAgain();
        return again.builds.knows(build) ? again.builds.began[build] : NONE;
    }

    public int has(int machine, int slot) throws IndexOutOfBoundsException, IllegalArgumentException {
        needMachine(machine);
        needRange(slot, 0, SLOTS - 1);
        return plan.holder(machine, slot);
    }

    public boolean isFree(int person, int slot) throws IndexOutOfBoundsException, IllegalArgumentException {
        needPerson(person);
        needRange(slot, 0, SLOTS - 1);
        return !isIn(person, plan.meetings.busyPeople(slot, 1, NONE) | plan.leaves.peopleAway(slot));
    }

    public char diary(int machine, int day, int at) throws IndexOutOfBoundsException, IllegalArgumentException {
        needMachine(machine);
        if (at < 0) {
            throw new IndexOutOfBoundsException("no char is there");
        }
        needRange(day, 0, DAYS - 1);
        int place = 0;
        for (int i = SLOTS_OF_DAY - 1; i >= 0; i--) {
            char sign = plan.sign(machine, day * SLOTS_OF_DAY + i);
            if (place == at) {
                return sign;
            }
            place++;
            if (sign == BROKEN_HIGH) {
                if (place == at) {
                    return BROKEN_LOW;
                }
                place++;
            }
        }
        return 0;
    }

    // ---- what a call needs

    private static void needRange(int value, int least, int most) {
        if (value < least || value > most) {
            throw new IllegalArgumentException("an argument is out of range");
        }
    }

    private static void needOneDay(int slot, int length) {
        if (!isOneDay(slot, length)) {
            throw new IllegalArgumentException("a meeting is on one day");
        }
    }

    private static void needState(boolean holds) {
        if (!holds) {
            throw new IllegalStateException("as things are, this cannot be");
        }
    }

    private static void needPerson(int person) {
        if (person < 0 || person >= PEOPLE) {
            throw new IndexOutOfBoundsException("no such person");
        }
    }

    private void needMachine(int machine) {
        if (!plan.machines.knows(machine)) {
            throw new IndexOutOfBoundsException("no such machine");
        }
    }

    private void needMeeting(int meeting) {
        if (!plan.meetings.knows(meeting)) {
            throw new IndexOutOfBoundsException("no such meeting");
        }
    }

    private void needSwap(int swap) {
        if (swap < 0 || swap >= swaps.count) {
            throw new IndexOutOfBoundsException("no such swap");
        }
    }

    private void needBuild(int build) {
        if (!plan.builds.knows(build)) {
            throw new IndexOutOfBoundsException("no such build");
        }
    }

    // ---- helpers

    private static boolean isIn(int person, int people) {
        return (people >> person & 1) == 1;
    }

    private static boolean isOneDay(int slot, int length) {
        return slot / SLOTS_OF_DAY == (slot + length - 1) / SLOTS_OF_DAY;
    }

    private static boolean overlap(int slot, int length, int otherSlot, int otherLength) {
        return slot < otherSlot + otherLength && otherSlot < slot + length;
    }

    /** The one way into the plan, so that what is planned once more takes the same words. */
    private void tell(int kind, int a, int b, int c, int d) {
        told.note(kind, plan.slot, a, b, c, d);
        plan.take(kind, a, b, c, d);
    }

    private void planAgain() {
        again.clear();
        for (int i = 0; i < told.count; i++) {
            again.passTo(told.at[i]);
            again.take(told.kind[i], told.a[i], told.b[i], told.c[i], told.d[i]);
        }
        again.passTo(plan.slot);
    }

    /** A meeting that was moved has another count of moves, even where it came back to its slot. */
    private boolean holds(int swap) {
        int meeting = swaps.meeting[swap];
        int other = swaps.other[swap];
        return plan.isAhead(meeting) && plan.isAhead(other)
                && plan.meetings.moves[meeting] == swaps.meetingMoves[swap]
                && plan.meetings.moves[other] == swaps.otherMoves[swap];
    }

    private void settle(int swap) {
        int meeting = swaps.meeting[swap];
        int other = swaps.other[swap];
        if (plan.canSwap(meeting, other)) {
            tell(A_SWAP, meeting, other, 0, 0);
            swaps.state[swap] = DONE;
        } else {
            swaps.state[swap] = REFUSED;
        }
    }

    /** What was told, in its order, each with the slot of its telling. */
    private static final class Told {
        final int[] kind = new int[MOST_TOLD];
        final int[] at = new int[MOST_TOLD];
        final int[] a = new int[MOST_TOLD];
        final int[] b = new int[MOST_TOLD];
        final int[] c = new int[MOST_TOLD];
        final int[] d = new int[MOST_TOLD];
        int count = 0;

        void note(int newKind, int slot, int newA, int newB, int newC, int newD) {
            if (count < MOST_TOLD) {
                kind[count] = newKind;
                at[count] = slot;
                a[count] = newA;
                b[count] = newB;
                c[count] = newC;
                d[count] = newD;
                count++;
            }
        }
    }

    /** The swaps that were proposed; the moves are those that its meetings had by then. */
    private static final class Swaps {
        final int[] meeting = new int[SWAPS];
        final int[] meetingMoves = new int[SWAPS];
        final int[] other = new int[SWAPS];
        final int[] otherMoves = new int[SWAPS];
        final int[] agreed = new int[SWAPS];
        final int[] state = new int[SWAPS];
        int count = 0;

        void add(int newMeeting, int newMeetingMoves, int newOther, int newOtherMoves) {
            if (count < SWAPS) {
                meeting[count] = newMeeting;
                meetingMoves[count] = newMeetingMoves;
                other[count] = newOther;
                otherMoves[count] = newOtherMoves;
                agreed[count] = 0;
                state[count] = OPEN;
                count++;
            }
        }
    }

    /** The days on which people are on leave: a bit of a day in the row of a person. */
    private static final class Leaves {
        final long[] days = new long[PEOPLE];

        void clear() {
            for (int p = 0; p < PEOPLE; p++) {
                days[p] = 0;
            }
        }

        void add(int person, int from, int to) {
            if (person >= 0 && person < PEOPLE) {
                for (int day = from; day <= to && day < DAYS; day++) {
                    days[person] |= 1L << day;
                }
            }
        }

        boolean isAway(int person, int slot) {
            return person >= 0 && person < PEOPLE && (days[person] >> slot / SLOTS_OF_DAY & 1) == 1;
        }

        int peopleAway(int slot) {
            int people = 0;
            for (int p = 0; p < PEOPLE; p++) {
                if (isAway(p, slot)) {
                    people |= 1 << p;
                }
            }
            return people;
        }
    }

    private static final class Loans {
        final int[] machine = new int[LOANS];
        final int[] person = new int[LOANS];
        final int[] from = new int[LOANS];
        final int[] to = new int[LOANS];
        int count = 0;

        void add(int newMachine, int newPerson, int newFrom, int newTo) {
            if (count < LOANS) {
                machine[count] = newMachine;
                person[count] = newPerson;
                from[count] = newFrom;
                to[count] = newTo;
                count++;
            }
        }

        /** Looks from the latest loan back, as the latest one counts. */
        int borrower(int ofMachine, int slot) {
            for (int i = count - 1; i >= 0; i--) {
                if (machine[i] == ofMachine && from[i] <= slot && slot <= to[i]) {
                    return person[i];
                }
            }
            return NONE;
        }
    }

    private static final class Machines {
        final int[] features = new int[MACHINES];
        final int[] owner = new int[MACHINES];
        final int[] brokenFrom = new int[MACHINES];
        /** The first slot behind the broken ones. */
        final int[] brokenUntil = new int[MACHINES];
        /** The build that runs on a machine, or NONE. */
        final int[] runs = new int[MACHINES];
        int count = 0;

        boolean knows(int machine) {
            return machine >= 0 && machine < count;
        }

        void add(int newFeatures, int newOwner) {
            if (count < MACHINES) {
                features[count] = newFeatures;
                owner[count] = newOwner;
                brokenFrom[count] = 0;
                brokenUntil[count] = 0;
                runs[count] = NONE;
                count++;
            }
        }

        boolean isBroken(int machine, int slot, int length) {
            return knows(machine) && brokenFrom[machine] < brokenUntil[machine]
                    && overlap(slot, length, brokenFrom[machine], brokenUntil[machine] - brokenFrom[machine]);
        }
    }

    private static final class Meetings {
        final int[] people = new int[MEETINGS];
        final int[] slot = new int[MEETINGS];
        final int[] length = new int[MEETINGS];
        final int[] machine = new int[MEETINGS];
        final int[] state = new int[MEETINGS];
        final int[] moves = new int[MEETINGS];
        int count = 0;

        boolean knows(int meeting) {
            return meeting >= 0 && meeting < count;
        }

        void add(int newPeople, int newSlot, int newLength, int newMachine) {
            if (count < MEETINGS) {
                people[count] = newPeople;
                slot[count] = newSlot;
                length[count] = newLength;
                machine[count] = newMachine;
                state[count] = SET;
                moves[count] = 0;
                count++;
            }
        }

        int peopleOf(int meeting) {
            return knows(meeting) ? people[meeting] : 0;
        }

        void place(int meeting, int newSlot) {
            if (knows(meeting)) {
                slot[meeting] = newSlot;
                moves[meeting]++;
            }
        }

        void callOff(int meeting) {
            if (knows(meeting)) {
                state[meeting] = CANCELLED;
            }
        }

        /** Only the slots, not the moves, so that exchanging them again leaves no trace. */
        void exchange(int meeting, int other) {
            if (knows(meeting) && knows(other)) {
                int kept = slot[meeting];
                slot[meeting] = slot[other];
                slot[other] = kept;
            }
        }

        void placeSwapped(int meeting, int other) {
            if (knows(meeting) && knows(other)) {
                exchange(meeting, other);
                moves[meeting]++;
                moves[other]++;
            }
        }

        int busyPeople(int from, int slots, int except) {
            int busy = 0;
            for (int i = 0; i < count; i++) {
                if (i != except && state[i] == SET && overlap(slot[i], length[i], from, slots)) {
                    busy |= people[i];
                }
            }
            return busy;
        }

        boolean isPromised(int ofMachine, int from, int slots, int except) {
            for (int i = 0; i < count; i++) {
                if (i != except && machine[i] == ofMachine && state[i] == SET
                        && overlap(slot[i], length[i], from, slots)) {
                    return true;
                }
            }
            return false;
        }

        void endBy(int nextSlot) {
            for (int i = 0; i < count; i++) {
                if (state[i] == SET && slot[i] + length[i] <= nextSlot) {
                    state[i] = OVER;
                }
            }
        }
    }

    private static final class Builds {
        final int[] needs = new int[BUILDS];
        final int[] urgency = new int[BUILDS];
        final int[] length = new int[BUILDS];
        final int[] state = new int[BUILDS];
        final int[] machine = new int[BUILDS];
        final int[] began = new int[BUILDS];
        final int[] times = new int[BUILDS];
        int count = 0;

        boolean knows(int build) {
            return build >= 0 && build < count;
        }

        void add(int newNeeds, int newUrgency, int newLength) {
            if (count < BUILDS) {
                needs[count] = newNeeds;
                urgency[count] = newUrgency;
                length[count] = newLength;
                times[count] = 0;
                count++;
                enqueue(count - 1);
            }
        }

        void enqueue(int build) {
            if (knows(build)) {
                state[build] = QUEUED;
                machine[build] = NONE;
                began[build] = NONE;
            }
        }

        void setUrgency(int build, int newUrgency) {
            if (knows(build)) {
                urgency[build] = newUrgency;
            }
        }

        void begin(int build, int onMachine, int slot) {
            if (knows(build)) {
                state[build] = RUNS;
                machine[build] = onMachine;
                began[build] = slot;
                times[build]++;
            }
        }

        int mostUrgent(int features, int longest) {
            int best = NONE;
            for (int i = 0; i < count; i++) {
                if (state[i] == QUEUED && (needs[i] & ~features) == 0 && length[i] <= longest
                        && (best == NONE || urgency[i] > urgency[best])) {
                    best = i;
                }
            }
            return best;
        }
    }

    /** How all stands in a slot, and how it goes on to the next one. */
    private static final class Plan {
        final Machines machines = new Machines();
        final Loans loans = new Loans();
        final Leaves leaves = new Leaves();
        final Meetings meetings = new Meetings();
        final Builds builds = new Builds();
        int slot = 0;

        void clear() {
            machines.count = 0;
            loans.count = 0;
            leaves.clear();
            meetings.count = 0;
            builds.count = 0;
            slot = 0;
        }

        void take(int kind, int a, int b, int c, int d) {
            switch (kind) {
                case A_MACHINE:
                    machines.add(a, b);
                    break;
                case A_LEAVE:
                    leaves.add(a, b, c);
                    break;
                case A_LOAN:
                    loans.add(a, b, c, d);
                    break;
                case A_BREAK:
                    setBroken(a, b);
                    break;
                case A_MEETING:
                    meetings.add(a, b, c, d);
                    break;
                case A_MOVE:
                    meetings.place(a, b);
                    break;
                case A_CANCEL:
                    meetings.callOff(a);
                    break;
                case A_SWAP:
                    meetings.placeSwapped(a, b);
                    break;
                case A_BUILD:
                    builds.add(a, b, c);
                    break;
                case AN_URGE:
                    builds.setUrgency(a, b);
                    break;
                default:
                    break;
            }
        }

        private void setBroken(int machine, int slots) {
            if (machines.knows(machine)) {
                machines.brokenFrom[machine] = slot;
                machines.brokenUntil[machine] = slot + slots;
                if (slots > 0) {
                    builds.enqueue(machines.runs[machine]);
                    machines.runs[machine] = NONE;
                }
            }
        }

        int holder(int machine, int inSlot) {
            int borrower = loans.borrower(machine, inSlot);
            return borrower == NONE && machines.knows(machine) ? machines.owner[machine] : borrower;
        }

        /** A meeting that begins in the slot of now has not begun: its first slot has not passed. */
        boolean isAhead(int meeting) {
            return meetings.knows(meeting) && meetings.state[meeting] == SET && meetings.slot[meeting] >= slot;
        }

        boolean runsIn(int machine, int from, int slots) {
            if (!machines.knows(machine)) {
                return false;
            }
            int build = machines.runs[machine];
            return builds.knows(build) && overlap(builds.began[build], builds.length[build], from, slots);
        }

        boolean hasRoom(int people, int from, int slots, int machine, int except) {
            int kept = meetings.busyPeople(from, slots, except) | leaves.peopleAway(from);
            return (people & kept) == 0
                    && (machine == NONE || !meetings.isPromised(machine, from, slots, except)
                            && !runsIn(machine, from, slots) && !machines.isBroken(machine, from, slots));
        }

        boolean canBe(int meeting, int from) {
            return meetings.knows(meeting) && isOneDay(from, meetings.length[meeting])
                    && hasRoom(meetings.people[meeting], from, meetings.length[meeting],
                            meetings.machine[meeting], meeting);
        }

        /** Asks with both in their new slots, as neither is in the other's way where it was. */
        boolean canSwap(int meeting, int other) {
            if (!meetings.knows(meeting) || !meetings.knows(other)) {
                return false;
            }
            meetings.exchange(meeting, other);
            boolean can = canBe(meeting, meetings.slot[meeting]) && canBe(other, meetings.slot[other]);
            meetings.exchange(meeting, other);
            return can;
        }

        void passTo(int target) {
            for (int s = slot; s < target && s < SLOTS; s++) {
                for (int m = 0; m < machines.count; m++) {
                    beginOn(m);
                }
                endSlot();
            }
        }

        private void beginOn(int machine) {
            if (!machines.knows(machine) || machines.runs[machine] != NONE) {
                return;
            }
            int features = machines.features[machine];
            // The free slots are looked for only where a build waits for them: that is the dearer question.
            if (builds.mostUrgent(features, LONGEST_BUILD) != NONE) {
                int build = builds.mostUrgent(features, freeSlots(machine));
                if (build != NONE) {
                    builds.begin(build, machine, slot);
                    machines.runs[machine] = build;
                }
            }
        }

        /** How many slots from now on nothing hinders a build; more than the longest one has do not matter. */
        private int freeSlots(int machine) {
            for (int i = 0; i < LONGEST_BUILD && slot + i < SLOTS; i++) {
                int s = slot + i;
                if (machines.isBroken(machine, s, 1) || leaves.isAway(holder(machine, s), s)
                        || meetings.isPromised(machine, s, 1, NONE)) {
                    return i;
                }
            }
            return LONGEST_BUILD;
        }

        private void endSlot() {
            slot++;
            for (int m = 0; m < machines.count; m++) {
                int build = machines.runs[m];
                if (builds.knows(build) && builds.began[build] + builds.length[build] <= slot) {
                    builds.state[build] = BUILT;
                    machines.runs[m] = NONE;
                }
            }
            meetings.endBy(slot);
        }

        char sign(int machine, int inSlot) {
            if (meetings.isPromised(machine, inSlot, 1, NONE)) {
                return MEETING_SIGN;
            }
            if (runsIn(machine, inSlot, 1)) {
                return BUILD_SIGN;
            }
            return machines.isBroken(machine, inSlot, 1) ? BROKEN_HIGH : FREE_SIGN;
        }
    }
}
