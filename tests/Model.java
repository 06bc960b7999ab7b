import java.util.ArrayList;
import java.util.List;
import java.util.Set;
import java.util.TreeSet;

/**
 * The document once more, in another way: a grid with a field for each slot, and objects that remember each other.
 * It is slow and plain, and shares no line with the program.
 */
final class Model {
    static final class Meet {
        int people;
        int slot;
        int length;
        int machine;
        int state;
        /** Swaps that were proposed, and refused as soon as somebody agrees once this meeting was moved. */
        final List<Swap> proposed = new ArrayList<>();
    }

    static final class Swap {
        Meet one;
        Meet two;
        boolean spoilt;
        int state;
        final Set<Integer> agreed = new TreeSet<>();
    }

    static final class Job {
        int needs;
        int urgency;
        int length;
        int left;
        int state;
        int machine = -1;
        int began = -1;
        int times;
    }

    static final class Rig {
        int features;
        final int[] who = new int[400];
        boolean[] broken = new boolean[500];
        Job job;
    }

    int now = 0;
    int loans = 0;
    final boolean[][] away = new boolean[10][50];
    final List<Rig> rigs = new ArrayList<>();
    final List<Meet> meets = new ArrayList<>();
    final List<Swap> swaps = new ArrayList<>();
    final List<Job> jobs = new ArrayList<>();

    private static void index(boolean wrong) {
        if (wrong) {
            throw new IndexOutOfBoundsException();
        }
    }

    private static void argument(boolean wrong) {
        if (wrong) {
            throw new IllegalArgumentException();
        }
    }

    private static void state(boolean wrong) {
        if (wrong) {
            throw new IllegalStateException();
        }
    }

    private static <T> T at(List<T> rows, int i) {
        index(i < 0 || i >= rows.size());
        return rows.get(i);
    }

    private static Set<Integer> slots(int slot, int length) {
        Set<Integer> all = new TreeSet<>();
        for (int i = 0; i < length; i++) {
            all.add(slot + i);
        }
        return all;
    }

    private static boolean meet(Set<Integer> one, Set<Integer> two) {
        return one.stream().anyMatch(two::contains);
    }

    int machine(int features, int owner) {
        index(owner < 0 || owner > 9);
        argument(features < 0 || features > 15);
        state(rigs.size() == 6);
        Rig rig = new Rig();
        rig.features = features;
        java.util.Arrays.fill(rig.who, owner);
        rigs.add(rig);
        return rigs.size() - 1;
    }

    int leave(int person, int from, int to) {
        index(person < 0 || person > 9);
        argument(from < now / 8 || from > 49 || to < from || to > 49);
        for (Meet m : meets) {
            state(m.state == 0 && (m.people >> person) % 2 == 1 && m.slot / 8 >= from && m.slot / 8 <= to);
        }
        for (int day = from; day <= to; day++) {
            away[person][day] = true;
        }
        return 0;
    }

    int lend(int machine, int person, int from, int to) {
        Rig rig = at(rigs, machine);
        index(person < 0 || person > 9);
        argument(from < now || from > 399 || to < from || to > 399);
        state(loans == 20);
        loans++;
        for (int s = from; s <= to; s++) {
            rig.who[s] = person;
        }
        return 0;
    }

    int breakDown(int machine, int slots) {
        Rig rig = at(rigs, machine);
        argument(slots < 0 || slots > 40);
        rig.broken = new boolean[500];
        for (int s = now; s < now + slots; s++) {
            rig.broken[s] = true;
        }
        if (slots == 0 || rig.job == null) {
            return -1;
        }
        Job job = rig.job;
        rig.job = null;
        job.state = 0;
        job.machine = -1;
        job.began = -1;
        return jobs.indexOf(job);
    }

    private boolean can(Meet asks) {
        Set<Integer> mine = slots(asks.slot, asks.length);
        if (asks.slot / 8 != (asks.slot + asks.length - 1) / 8) {
            return false;
        }
        for (int p = 0; p < 10; p++) {
            if ((asks.people & 1 << p) != 0 && away[p][asks.slot / 8]) {
                return false;
            }
        }
        for (Meet m : meets) {
            if (m != asks && m.state == 0 && meet(mine, slots(m.slot, m.length))
                    && ((m.people & asks.people) != 0 || m.machine >= 0 && m.machine == asks.machine)) {
                return false;
            }
        }
        if (asks.machine < 0) {
            return true;
        }
        Rig rig = rigs.get(asks.machine);
        for (int s : mine) {
            if (rig.broken[s] || rig.job != null && s < now + rig.job.left) {
                return false;
            }
        }
        return true;
    }

    int meeting(int people, int slot, int length, int machine) {
        index(machine != -1 && (machine < 0 || machine >= rigs.size()));
        argument(people < 1 || people > 1023 || slot < now || slot > 399 || length < 1 || length > 4);
        argument(slot % 8 + length > 8);
        Meet m = new Meet();
        m.people = people;
        m.slot = slot;
        m.length = length;
        m.machine = machine;
        state(!can(m) || meets.size() == 30);
        meets.add(m);
        return meets.size() - 1;
    }

    private boolean ahead(Meet m) {
        return m.state == 0 && now <= m.slot;
    }

    private void moved(Meet m) {
        for (Swap s : m.proposed) {
            s.spoilt = true;
        }
    }

    int move(int meeting, int slot) {
        Meet m = at(meets, meeting);
        argument(slot < now || slot > 399);
        argument(slot % 8 + m.length > 8);
        state(!ahead(m));
        int was = m.slot;
        m.slot = slot;
        if (!can(m)) {
            m.slot = was;
            return 0;
        }
        moved(m);
        return 1;
    }

    int cancel(int meeting) {
        Meet m = at(meets, meeting);
        state(!ahead(m));
        m.state = 1;
        return 0;
    }

    int swap(int meeting, int other) {
        Swap s = new Swap();
        s.one = at(meets, meeting);
        s.two = at(meets, other);
        argument(s.one == s.two);
        state(!ahead(s.one) || !ahead(s.two) || swaps.size() == 20);
        s.one.proposed.add(s);
        s.two.proposed.add(s);
        swaps.add(s);
        return swaps.size() - 1;
    }

    int agree(int person, int swap) {
        index(person < 0 || person > 9);
        Swap s = at(swaps, swap);
        int all = s.one.people | s.two.people;
        state(s.state != 0 || (all & 1 << person) == 0);
        s.agreed.add(person);
        if (s.spoilt || !ahead(s.one) || !ahead(s.two)) {
            s.state = 2;
            return 2;
        }
        if (s.agreed.size() < Integer.bitCount(all)) {
            return 0;
        }
        int one = s.one.slot;
        int two = s.two.slot;
        s.one.slot = two;
        s.two.slot = one;
        if (can(s.one) && can(s.two)) {
            moved(s.one);
            moved(s.two);
            s.state = 1;
        } else {
            s.one.slot = one;
            s.two.slot = two;
            s.state = 2;
        }
        return s.state;
    }

    int build(int needs, int urgency, int length) {
        argument(needs < 0 || needs > 15 || urgency < 0 || urgency > 9 || length < 1 || length > 6);
        state(jobs.size() == 40);
        Job job = new Job();
        job.needs = needs;
        job.urgency = urgency;
        job.length = length;
        jobs.add(job);
        return jobs.size() - 1;
    }

    int urge(int build, int urgency) {
        Job job = at(jobs, build);
        argument(urgency < 0 || urgency > 9);
        state(job.state != 0);
        int was = job.urgency;
        job.urgency = urgency;
        return was;
    }

    int pass(int slots) {
        argument(slots < 1 || slots > 50);
        state(now + slots > 400);
        for (int i = 0; i < slots; i++) {
            passOne();
        }
        return now;
    }

    private void passOne() {
        for (int m = 0; m < rigs.size(); m++) {
            Rig rig = rigs.get(m);
            if (rig.job == null) {
                begin(rig, m);
            }
        }
        now++;
        for (Rig rig : rigs) {
            if (rig.job != null && --rig.job.left == 0) {
                rig.job.state = 2;
                rig.job = null;
            }
        }
        for (Meet m : meets) {
            if (m.state == 0 && m.slot + m.length == now) {
                m.state = 2;
            }
        }
    }

    private void begin(Rig rig, int machine) {
        for (int urgency = 9; urgency >= 0; urgency--) {
            for (Job job : jobs) {
                if (job.state == 0 && job.urgency == urgency && runs(rig, machine, job)) {
                    job.state = 1;
                    job.machine = machine;
                    job.began = now;
                    job.times++;
                    job.left = job.length;
                    rig.job = job;
                    return;
                }
            }
        }
    }

    private boolean runs(Rig rig, int machine, Job job) {
        for (int feature = 0; feature < 4; feature++) {
            if ((job.needs >> feature & 1) == 1 && (rig.features >> feature & 1) == 0) {
                return false;
            }
        }
        for (int s = now; s < now + job.length && s < 400; s++) {
            if (rig.broken[s] || away[rig.who[s]][s / 8] || promised(machine, s)) {
                return false;
            }
        }
        return true;
    }

    private boolean promised(int machine, int slot) {
        for (Meet m : meets) {
            if (m.state == 0 && m.machine == machine && slots(m.slot, m.length).contains(slot)) {
                return true;
            }
        }
        return false;
    }

    int meetingOf(int meeting, int what) {
        Meet m = at(meets, meeting);
        argument(what < 0 || what > 4);
        return new int[] {m.state, m.slot, m.length, m.machine, m.people}[what];
    }

    int swapOf(int swap) {
        return at(swaps, swap).state;
    }

    int buildOf(int build, int what) {
        Job job = at(jobs, build);
        argument(what < 0 || what > 3);
        return new int[] {job.state, job.machine, job.began, job.times}[what];
    }

    int beganAnew(int build) {
        return at(jobs, build).began;
    }

    int has(int machine, int slot) {
        Rig rig = at(rigs, machine);
        argument(slot < 0 || slot > 399);
        return rig.who[slot];
    }

    int isFree(int person, int slot) {
        index(person < 0 || person > 9);
        argument(slot < 0 || slot > 399);
        boolean busy = away[person][slot / 8];
        for (Meet m : meets) {
            busy |= m.state == 0 && (m.people & 1 << person) != 0 && slots(m.slot, m.length).contains(slot);
        }
        return busy ? 0 : 1;
    }

    int diary(int machine, int day, int at) {
        Rig rig = at(rigs, machine);
        index(at < 0);
        argument(day < 0 || day > 49);
        StringBuilder text = new StringBuilder();
        for (int s = day * 8 + 7; s >= day * 8; s--) {
            if (promised(machine, s)) {
                text.append('M');
            } else if (rig.job != null && s >= rig.job.began && s < rig.job.began + rig.job.length) {
                text.append('B');
            } else if (rig.broken[s]) {
                text.appendCodePoint(0x1F527);
            } else {
                text.append('.');
            }
        }
        return at < text.length() ? text.charAt(at) : 0;
    }
}
