import java.lang.management.ManagementFactory;

/** All calls of one run live in one room, so the dearest calls, made again and again, take next to none of it. */
public final class RoomTest {
    private static final int REPEATS = 400;
    private static final long MOST_BYTES = 200_000;

    private interface Call {
        void make(ElmLedger x);
    }

    public static void main(String[] args) {
        ElmLedger x = fill();
        measure("a new object", other -> new ElmLedger(), 10_000 * REPEATS, x);
        measure("draw", ElmLedger::draw, MOST_BYTES, x);
        measure("costByTrying", ElmLedger::costByTrying, MOST_BYTES, x);
        measure("isCurrent", ElmLedger::isCurrent, MOST_BYTES, x);
        measure("travel", other -> other.travel(other.logged()), MOST_BYTES, x);
        measure("change", other -> other.change(0, 0, 1), MOST_BYTES, x);
        measure("load", ElmLedger::load, MOST_BYTES, x);
        measure("fieldByLog", other -> other.fieldByLog(0), MOST_BYTES, x);
        measure("tick", ElmLedger::tick, MOST_BYTES, x);
        measure("start", ElmLedger::start, MOST_BYTES, x);
        measure("isGeneral", other -> other.isGeneral(5, 5), MOST_BYTES, x);
        measure("solve", ElmLedger::solve, MOST_BYTES, x);
        measure("chosen", other -> other.chosen(3), MOST_BYTES, x);
        measure("judge", other -> other.judge(0), MOST_BYTES, x);
        measure("advise", RoomTest::adviseLong, MOST_BYTES, x);
        Check.end();
    }

    private static void adviseLong(ElmLedger x) {
        RegistryTest.type(x, "abcdefgh");
        x.advise(0);
    }

    private static ElmLedger fill() {
        ElmLedger x = new ElmLedger();
        x.addField(6);
        for (int i = 0; i < 8; i++) {
            x.addStep(0, 'l', 0, 0);
        }
        x.addBlock('r', 0, 0, false);
        x.addBlock('r', 0, 0, false);
        x.start();
        for (int i = 0; i < 60; i++) {
            x.send(0, 1);
            x.update(1);
        }
        x.addType('v', 0, 0);
        for (int i = 0; i < 5; i++) {
            x.addType('p', i, i);
        }
        for (int i = 0; i < 4; i++) {
            x.addPackage();
            for (char letter = 'a'; letter < 'g'; letter++) {
                RegistryTest.expose(x, i, "hgfedcb" + letter, 5);
            }
        }
        for (int i = 0; i < 4; i++) {
            for (int j = 0; j < 3; j++) {
                x.need(i, (i + 1 + j) % 4, 10000, 20000);
            }
            for (int j = 0; j < 8; j++) {
                x.publish(i);
            }
            x.need(-1, i, 10000, 10001);
        }
        return x;
    }

    private static void measure(String what, Call call, long most, ElmLedger x) {
        com.sun.management.ThreadMXBean threads =
                (com.sun.management.ThreadMXBean) ManagementFactory.getThreadMXBean();
        call.make(x);
        long thread = Thread.currentThread().getId();
        long before = threads.getThreadAllocatedBytes(thread);
        for (int i = 0; i < REPEATS; i++) {
            call.make(x);
        }
        long bytes = threads.getThreadAllocatedBytes(thread) - before;
        if (bytes > most) {
            System.out.println(what + ": " + bytes + " bytes");
        }
        Check.same(what + " keeps to its room", true, bytes <= most);
    }
}
