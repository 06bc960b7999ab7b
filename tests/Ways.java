/** Short ways that the tests share. */
class Ways {
    /** The sign of a broken slot: its two chars. */
    static final String BROKEN = new String(Character.toChars(0x1F527));

    static int set(int... members) {
        int set = 0;
        for (int member : members) {
            set |= 1 << member;
        }
        return set;
    }

    static void passTo(Rigdiary x, int slot) {
        while (x.slot() < slot) {
            x.pass(Math.min(50, slot - x.slot()));
        }
    }
}
