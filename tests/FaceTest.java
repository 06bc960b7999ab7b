import com.sun.management.ThreadMXBean;
import java.io.IOException;
import java.lang.management.ManagementFactory;
import java.lang.reflect.Constructor;
import java.lang.reflect.Field;
import java.lang.reflect.Method;
import java.lang.reflect.Modifier;
import java.nio.file.Files;
import java.nio.file.Path;
import java.util.ArrayList;
import java.util.List;
import java.util.Set;
import java.util.TreeSet;

/** The face of the document and nothing beside it, the plainest rules of LANGUAGE.md, and the room that calls take. */
public final class FaceTest extends Ways {
    private static final String FACE = """
        machine(int,int)int IndexOutOfBoundsException IllegalArgumentException IllegalStateException
        leave(int,int,int)void IndexOutOfBoundsException IllegalArgumentException IllegalStateException
        lend(int,int,int,int)void IndexOutOfBoundsException IllegalArgumentException IllegalStateException
        breakDown(int,int)int IndexOutOfBoundsException IllegalArgumentException
        meeting(int,int,int,int)int IndexOutOfBoundsException IllegalArgumentException IllegalStateException
        move(int,int)boolean IndexOutOfBoundsException IllegalArgumentException IllegalStateException
        cancel(int)void IndexOutOfBoundsException IllegalStateException
        swap(int,int)int IndexOutOfBoundsException IllegalArgumentException IllegalStateException
        agree(int,int)int IndexOutOfBoundsException IllegalStateException
        build(int,int,int)int IllegalArgumentException IllegalStateException
        urge(int,int)int IndexOutOfBoundsException IllegalArgumentException IllegalStateException
        pass(int)int IllegalArgumentException IllegalStateException
        slot()int
        meetingOf(int,int)int IndexOutOfBoundsException IllegalArgumentException
        swapOf(int)int IndexOutOfBoundsException
        buildOf(int,int)int IndexOutOfBoundsException IllegalArgumentException
        beganAnew(int)int IndexOutOfBoundsException
        has(int,int)int IndexOutOfBoundsException IllegalArgumentException
        isFree(int,int)boolean IndexOutOfBoundsException IllegalArgumentException
        diary(int,int,int)char IndexOutOfBoundsException IllegalArgumentException
        """;

    public static void main(String[] args) throws IOException {
        constants();
        methods();
        otherMembers();
        source();
        sizes();
        room();
        manyCalls();
        Check.end("FaceTest");
    }

    private static void constants() {
        Check.compare(-1, NONE);
        Check.compare("0 1 2", Rigdiary.SET + " " + Rigdiary.CANCELLED + " " + Rigdiary.OVER);
        Check.compare("0 1 2", Rigdiary.OPEN + " " + Rigdiary.DONE + " " + Rigdiary.REFUSED);
        Check.compare("0 1 2", Rigdiary.QUEUED + " " + Rigdiary.RUNS + " " + Rigdiary.BUILT);
    }

    private static String told(Method m) {
        List<String> types = new ArrayList<>();
        for (Class<?> type : m.getParameterTypes()) {
            types.add(type.getSimpleName());
        }
        StringBuilder text = new StringBuilder(m.getName() + "(" + String.join(",", types) + ")"
            + m.getReturnType().getSimpleName());
        for (Class<?> e : m.getExceptionTypes()) {
            text.append(' ').append(e.getSimpleName());
        }
        return text.toString();
    }

    private static void methods() {
        Set<String> due = new TreeSet<>(FACE.lines().toList());
        Set<String> got = new TreeSet<>();
        Set<String> names = new TreeSet<>();
        for (Method m : Rigdiary.class.getDeclaredMethods()) {
            if (Modifier.isPublic(m.getModifiers())) {
                got.add(told(m));
                names.add(m.getName());
            }
        }
        Check.compare(due, got);
        for (Method m : Rigdiary.class.getDeclaredMethods()) {
            if (!Modifier.isPublic(m.getModifiers())) {
                Check.compare(true, Modifier.isPrivate(m.getModifiers()) && !names.contains(m.getName()));
            }
        }
    }

    private static void otherMembers() {
        Check.compare(true, Modifier.isFinal(Rigdiary.class.getModifiers()));
        Constructor<?>[] made = Rigdiary.class.getDeclaredConstructors();
        Check.compare(1, made.length);
        Check.compare(true, Modifier.isPublic(made[0].getModifiers()) && made[0].getParameterCount() == 0);
        int constants = 0;
        for (Field f : Rigdiary.class.getDeclaredFields()) {
            boolean open = Modifier.isPublic(f.getModifiers());
            constants += open ? 1 : 0;
            Check.compare(true, open || Modifier.isPrivate(f.getModifiers()));
            Check.compare(true, !Modifier.isStatic(f.getModifiers()) || Modifier.isFinal(f.getModifiers()));
        }
        Check.compare(10, constants);
        for (Class<?> inside : Rigdiary.class.getDeclaredClasses()) {
            Check.compare(true, Modifier.isPrivate(inside.getModifiers()) && Modifier.isStatic(inside.getModifiers()));
        }
    }

    private static void source() throws IOException {
        String text = Files.readString(Path.of("src/main/java/Rigdiary.java"));
        for (String word : List.of("import ", "package ", "catch", "finally", "->", "::", "assert", "synchronized",
                "System.", "Random", "while (true)", "for (;;)")) {
            Check.compare(word + " is not there", text.contains(word) ? word + " is there" : word + " is not there");
        }
        int longest = 0;
        for (String line : text.lines().toList()) {
            longest = Math.max(longest, line.length());
        }
        Check.compare(true, longest <= 120);
        Check.compare(true, text.chars().allMatch(c -> c < 128));
    }

    /** Rule 11, and rule 1 for the classes inside: no method of theirs has a name of the face, either. */
    private static void sizes() {
        List<Class<?>> all = new ArrayList<>(List.of(Rigdiary.class.getDeclaredClasses()));
        all.add(Rigdiary.class);
        Check.compare(true, all.size() <= 12);
        for (Class<?> one : all) {
            int fields = 0;
            for (Field f : one.getDeclaredFields()) {
                fields += Modifier.isStatic(f.getModifiers()) ? 0 : 1;
            }
            Check.compare(true, fields <= 20);
            for (Method m : one.getDeclaredMethods()) {
                Check.compare(true, m.getParameterCount() <= 7);
                Check.compare(false, one != Rigdiary.class && ("\n" + FACE).contains("\n" + m.getName() + "("));
            }
        }
    }

    /** What one run makes lives in one room: an object is small, and no call makes another one. */
    private static void room() {
        ThreadMXBean threads = (ThreadMXBean) ManagementFactory.getThreadMXBean();
        long thread = Thread.currentThread().getId();
        new Rigdiary();
        long start = threads.getThreadAllocatedBytes(thread);
        Rigdiary x = new Rigdiary();
        long made = threads.getThreadAllocatedBytes(thread);
        x.machine(15, 0);
        for (int i = 0; i < 20; i++) {
            x.build(i % 16, i % 10, i % 6 + 1);
            x.meeting(1, 80 + 8 * i, 1, NONE);
            x.move(i, 81 + 8 * i);
            if (i > 0) {
                x.swap(i, i - 1);
                x.agree(0, i - 1);
            }
            x.pass(1);
            x.lend(0, 1, 40, 50);
            x.breakDown(0, i % 2);
            x.beganAnew(0);
            x.diary(0, 0, 9);
            x.isFree(0, 7);
        }
        long asked = threads.getThreadAllocatedBytes(thread);
        Check.compare(true, made - start < 8 * 1024 * 5);
        Check.compare(true, asked - made < 4096);
    }

    /** What calls beyond the 512th answer is free, but they end, and nothing but what they name is thrown. */
    private static void manyCalls() {
        Rigdiary x = new Rigdiary();
        x.machine(15, 0);
        x.build(0, 0, 6);
        for (int i = 0; i < 3000; i++) {
            int round = i;
            Check.does(() -> x.leave(round % 10, 49, 49));
            Check.does(() -> x.breakDown(0, round % 41));
            Check.does(() -> x.beganAnew(0));
            if (i % 10 == 0 && x.slot() < 400) {
                x.pass(1);
            }
        }
    }
}
