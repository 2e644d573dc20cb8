import java.lang.management.ManagementFactory;

/** All calls of one run live in one room, so the dearest calls, made again and again, take next to none of it. */
public final class RoomTest {
    /** The filled object has had 406 calls, and 512 are all that count. */
    private static final int REPEATS = 100;
    private static final int MOST_BYTES = 500;

    private interface Call {
        void make(ElmLedger x);
    }

    public static void main(String[] args) {
        measure("a new object", other -> new ElmLedger(), 10_000);
        measure("draw", ElmLedger::draw, MOST_BYTES);
        measure("costByTrying", ElmLedger::costByTrying, MOST_BYTES);
        measure("isCurrent", ElmLedger::isCurrent, MOST_BYTES);
        measure("travel", other -> other.travel(60), MOST_BYTES);
        measure("change", other -> other.change(0, 0, 1), MOST_BYTES);
        measure("load", ElmLedger::load, MOST_BYTES);
        measure("fieldByLog", other -> other.fieldByLog(0), MOST_BYTES);
        measure("tick", ElmLedger::tick, MOST_BYTES);
        measure("start", ElmLedger::start, MOST_BYTES);
        measure("isGeneral", other -> other.isGeneral(5, 5), MOST_BYTES);
        measure("solve", ElmLedger::solve, MOST_BYTES);
        measure("chosen", other -> other.chosen(3), MOST_BYTES);
        measure("judge", other -> other.judge(0), MOST_BYTES);
        measure("advise", other -> other.advise(0), MOST_BYTES);
        Check.end();
    }

    private static ElmLedger fill() {
        ElmLedger x = new ElmLedger();
        x.addField(6);
        for (int i = 0; i < 8; i++) {
            x.addStep(0, 'l', 0, 0);
        }
        x.addBlock('r', 0, 0, false);
        x.addBlock('r', 0, 0, false);
        x.start();
        for (int i = 0; i < 60; i++) {
            x.send(0, 1);
            x.update(1);
        }
        x.addType('v', 0, 0);
        for (int i = 0; i < 5; i++) {
            x.addType('p', i, i);
        }
        for (int i = 0; i < 4; i++) {
            x.addPackage();
            for (char letter = 'a'; letter < 'g'; letter++) {
                RegistryTest.expose(x, i, "hgfedcb" + letter, 5);
            }
        }
        for (int i = 0; i < 4; i++) {
            for (int j = 0; j < 3; j++) {
                x.need(i, (i + 1 + j) % 4, 10000, 20000);
            }
            for (int j = 0; j < 8; j++) {
                x.publish(i);
            }
            x.need(-1, i, 10000, 10001);
        }
        return x;
    }

    private static void measure(String what, Call call, int most) {
        ElmLedger x = fill();
        com.sun.management.ThreadMXBean threads =
                (com.sun.management.ThreadMXBean) ManagementFactory.getThreadMXBean();
        call.make(x);
        long thread = Thread.currentThread().getId();
        long before = threads.getThreadAllocatedBytes(thread);
        for (int i = 0; i < REPEATS; i++) {
            call.make(x);
        }
        long bytes = (threads.getThreadAllocatedBytes(thread) - before) / REPEATS;
        if (bytes > most) {
            System.out.println(what + ": " + bytes + " bytes a call");
        }
        Check.same(what + " keeps to its room", true, bytes <= most);
    }
}
