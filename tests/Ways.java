/** Short ways that the tests share. */
class Ways {
    static final int NONE = Rigdiary.NONE;
    /** The sign of a broken slot: its two chars. */
    static final String BROKEN = new String(Character.toChars(0x1F527));

    /** What was told ahead of a call: nothing, or one machine that has no features and that person 0 owns. */
    static final CheckEdges.Story NOTHING = x -> { };
    static final CheckEdges.Story MACHINE = x -> x.machine(0, 0);

    static int set(int... members) {
        int set = 0;
        for (int member : members) {
            set |= 1 << member;
        }
        return set;
    }

    static void passTo(Rigdiary x, int slot) {
        int now = x.slot();
        for (int i = 0; i < 400 && now < slot; i++) {
            now = x.pass(Math.min(50, slot - now));
        }
    }

    /** The diary of a day as it is told, char for char, until the 0 behind the last one. */
    static String day(Rigdiary x, int machine, int day) {
        StringBuilder text = new StringBuilder();
        char sign = x.diary(machine, day, 0);
        while (sign != 0 && text.length() < 20) {
            text.append(sign);
            sign = x.diary(machine, day, text.length());
        }
        return text.toString();
    }

    static boolean isOneDay(int slot, int length) {
        return slot % 8 + length <= 8;
    }

    /** Whether a slot is in both: in one that begins at a slot and in another one. */
    static boolean overlap(int slot, int length, int other, int otherLength) {
        int both = 0;
        for (int s = slot; s < slot + length; s++) {
            both += s >= other && s < other + otherLength ? 1 : 0;
        }
        return both > 0;
    }
}
