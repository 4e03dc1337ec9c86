import java.lang.management.ManagementFactory;

/** A run lives in one room that is never swept: an object is small, and its calls make nothing. */
public final class RoomTest {
    private static final int OBJECTS = 100;
    private static final long MOST_BYTES_OF_OBJECT = 20000;
    private static final Due due = new Due();

    public static void main(String[] args) {
        SpotRows x = new SpotRows();
        // The machine's own making while it loads classes is not the program's.
        calls(x);
        long start = made();
        made();
        long meter = made() - start;
        start = made();
        calls(x);
        long byCalls = made() - start - meter;
        due.yes("calls made " + byCalls + " bytes", byCalls <= meter + 512);

        SpotRows[] kept = new SpotRows[OBJECTS];
        start = made();
        for (int k = 0; k < OBJECTS; k++) {
            kept[k] = new SpotRows();
        }
        long each = (made() - start) / OBJECTS;
        due.yes("an object has " + each + " bytes", each <= MOST_BYTES_OF_OBJECT && kept[0] != null);
        due.end("RoomTest");
    }

    private static long made() {
        return ((com.sun.management.ThreadMXBean) ManagementFactory.getThreadMXBean())
            .getThreadAllocatedBytes(Thread.currentThread().getId());
    }

    private static void calls(SpotRows x) {
        for (int eye = 0; eye < 9; eye++) {
            x.eye();
        }
        x.rules(1, 1);
        for (int round = 0; round < 240; round++) {
            x.tray(round % 4, 3, 60);
            x.write(round % 4, round % 60, 1000 * (round % 20) + 50);
            x.read(round % 4, round % 60);
            x.pour(round % 4, 0, (round + 1) % 4, 1, 59);
            x.tell(round % 8, round, round % 21, 30);
            x.tell((round + 1) % 8, round, round % 21, 40);
            x.book(round % 8, round, round % 4, 30);
            x.unsay(round % 8, round / 2);
            answers(x, round);
        }
    }

    private static void answers(SpotRows x, int round) {
        int a = round % 8;
        int b = (round + 1) % 8;
        x.told(a, round, 2);
        x.days(a);
        x.both(a, b);
        x.factor(a, b);
        x.middle(a, b);
        x.step(a, b, 20);
        x.blind(a, b);
        x.active(a, 0, 239);
        x.chain(a, 1);
        x.weight(a);
        x.loop(a, b, (round + 2) % 8);
        x.day(round);
        x.month(round / 10);
        x.smooth(round / 10, 7);
        x.turn(0, 3, 8, true);
        x.change(round / 10, a);
    }
}
