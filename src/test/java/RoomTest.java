import com.sun.management.ThreadMXBean;
import java.lang.management.ManagementFactory;

/** Calls make no objects, as a run has little room; only a new desk and an exception do. */
public final class RoomTest {
    private static final ThreadMXBean THREADS = (ThreadMXBean) ManagementFactory.getThreadMXBean();
    private static final long ROOM_OF_A_DESK = 60_000;
    /** Nothing is due; this much is left to what the machine may do beside the calls. */
    private static final long ROOM_OF_CALLS = 2_000;

    public static void main(String[] args) {
        if (!THREADS.isThreadAllocatedMemorySupported()) {
            System.out.println("this machine does not count what is allocated");
            return;
        }
        AmplifierDesk warm = new AmplifierDesk();
        all(warm);
        long start = THREADS.getThreadAllocatedBytes(Thread.currentThread().getId());
        AmplifierDesk desk = new AmplifierDesk();
        long made = THREADS.getThreadAllocatedBytes(Thread.currentThread().getId());
        for (int i = 0; i < 8; i++) {
            all(desk);
        }
        long end = THREADS.getThreadAllocatedBytes(Thread.currentThread().getId());
        Check.equal("bytes of a desk beyond " + ROOM_OF_A_DESK, Math.max(0, made - start - ROOM_OF_A_DESK), 0);
        Check.equal("bytes of calls beyond " + ROOM_OF_CALLS, Math.max(0, end - made - ROOM_OF_CALLS), 0);
        System.out.println("a desk takes " + (made - start) + " bytes, some 500 calls take " + (end - made));
        Check.end();
    }

    /** All calls of the face, 61 of them, and each change that a circuit with three amplifiers can have. */
    private static void all(AmplifierDesk desk) {
        String text = "s15;o103;r341;r451;o045;r521;o206";
        desk.begin();
        for (int i = 0; i < text.length(); i++) {
            desk.append(text.charAt(i));
        }
        desk.firstError();
        desk.load();
        desk.keep(0);
        desk.setValue(0, -7);
        desk.setRail(99);
        desk.sweep(0, 200);
        desk.trip(0, false);
        desk.ifValue(2, 4);
        desk.voltage(3, 0);
        desk.current(2, 1);
        desk.amplifier(2, 2);
        desk.why(26);
        desk.concerned(13);
        desk.inCase(7, 5, 1);
        desk.part(3, 3);
        desk.count(5);
        desk.count(6);
        desk.meanVoltage();
        desk.digest();
        desk.undo();
        desk.back(0);
        desk.drop(1);
        desk.clearInput();
    }
}
