import com.sun.management.ThreadMXBean;
import java.lang.management.ManagementFactory;
import java.util.function.IntConsumer;

/** All calls of one run live in one room: what 512 calls of the dearest kinds make stays small, and the rest makes nothing. */
public final class RoomTests {
    private static final ThreadMXBean THREADS = (ThreadMXBean) ManagementFactory.getThreadMXBean();
    private static final String WHOLE = "lit " + "q=1|".repeat(28) + "q<10";
    private static int wrong = 0;

    public static void main(String[] args) {
        SunMirrors[] made = new SunMirrors[512];
        bytes("512 objects", 4_000_000, i -> made[i] = new SunMirrors());
        SunMirrors asked = full();
        bytes("asking", 4_000, i -> ask(asked, i));
        SunMirrors read = full();
        read.image();
        bytes("reading valleys", 1_000_000, i -> reread(read));
        SunMirrors built = new SunMirrors();
        built.image();
        bytes("building anew", 500_000, i -> rebuild(built));
        System.out.println(wrong == 0 ? "all runs keep to their room" : wrong + " runs take too much room");
        if (wrong != 0) System.exit(1);
    }

    private static void bytes(String name, long most, IntConsumer call) {
        call.accept(0);
        long before = THREADS.getThreadAllocatedBytes(Thread.currentThread().getId());
        for (int i = 0; i < 512; i++) {
            call.accept(i);
        }
        long bytes = THREADS.getThreadAllocatedBytes(Thread.currentThread().getId()) - before;
        System.out.println(name + ": " + bytes + " bytes");
        if (bytes > most) {
            wrong++;
            System.out.println(name + " takes more than " + most);
        }
    }

    private static void feed(SunMirrors s, String text) {
        for (int i = 0; i < text.length(); i++) {
            s.feed(text.charAt(i), 1);
        }
    }

    private static SunMirrors full() {
        SunMirrors s = new SunMirrors();
        for (int i = 0; i < 6; i++) {
            s.mirror(i, 101 * i, 10919);
            s.patch(4000 + i, 20, 20);
        }
        for (int i = 0; i < 8; i++) {
            s.wall(3000 + i, 3040, 1);
        }
        feed(s, WHOLE);
        s.valley();
        for (int i = 0; i < 48; i++) {
            s.plan(i / 8, i % 8, i % 6);
        }
        s.vote(543210);
        feed(s, WHOLE);
        return s;
    }

    private static void ask(SunMirrors s, int i) {
        s.can(i % 6, 0, 1);
        s.judged();
        s.has(i % 6, 1);
        s.worth(i % 2);
        s.best(i % 6, 7);
        s.fair(0);
        s.take(300, 0);
        s.coarse(1);
        s.kept(i % 6, 4, 0);
        s.gone(i % 6);
        s.day();
        s.passed(0, i % 6, 1);
        s.vote(543210);
        s.holds(i % 2);
        s.act(4, 2, i);
        s.image();
        s.undo();
        s.clear();
    }

    private static void reread(SunMirrors s) {
        s.undo();
        s.valley();
        s.valley();
    }

    private static void rebuild(SunMirrors s) {
        for (int i = 0; i < 6; i++) {
            s.mirror(i, 101 * i, 10919);
            s.wall(3000 + i, 3040, 1);
        }
        s.undo();
    }
}
