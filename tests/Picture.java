/** All that can be asked of a diary, as one text. */
final class Picture {
    private Picture() {
    }

    static String of(Rigdiary x) {
        StringBuilder text = new StringBuilder("slot " + x.slot());
        for (int i = 0; has(x, i); i++) {
            machine(x, i, text);
        }
        for (int p = 0; p < 10; p++) {
            text.append("\nperson ").append(p).append(' ');
            for (int s = 0; s < 400; s++) {
                text.append(x.isFree(p, s) ? '-' : '#');
            }
        }
        rows(x, text);
        return text.toString();
    }

    private static boolean has(Rigdiary x, int machine) {
        try {
            x.has(machine, 0);
            return true;
        } catch (IndexOutOfBoundsException e) {
            return false;
        }
    }

    private static void machine(Rigdiary x, int machine, StringBuilder text) {
        text.append("\nmachine ").append(machine).append(' ');
        for (int s = 0; s < 400; s++) {
            text.append(x.has(machine, s));
        }
        for (int day = 0; day < 50; day++) {
            text.append(' ').append(day(x, machine, day));
        }
    }

    static String day(Rigdiary x, int machine, int day) {
        StringBuilder text = new StringBuilder();
        for (int at = 0; at < 17; at++) {
            char sign = x.diary(machine, day, at);
            if (sign != 0) {
                text.append(sign);
            }
        }
        return text.toString();
    }

    private static void rows(Rigdiary x, StringBuilder text) {
        int end = 0;
        for (int kind = 0; kind < 3; kind++) {
            try {
                for (int i = 0; i < 100; i++) {
                    text.append("\nrow ").append(kind).append(' ').append(row(x, kind, i));
                }
            } catch (IndexOutOfBoundsException e) {
                end++;
            }
        }
        text.append("\nends ").append(end);
    }

    private static String row(Rigdiary x, int kind, int i) {
        if (kind == 0) {
            return x.meetingOf(i, 0) + " " + x.meetingOf(i, 1) + " " + x.meetingOf(i, 2) + " "
                    + x.meetingOf(i, 3) + " " + x.meetingOf(i, 4);
        }
        if (kind == 1) {
            return "" + x.swapOf(i);
        }
        return x.buildOf(i, 0) + " " + x.buildOf(i, 1) + " " + x.buildOf(i, 2) + " " + x.buildOf(i, 3);
    }
}
