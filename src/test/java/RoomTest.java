import com.sun.management.ThreadMXBean;
import java.lang.management.ManagementFactory;

/** All calls of one run live in one room: the constructor makes little, and no call makes anything. */
final class RoomTest {
    private static final int ROUNDS = 5, OBJECTS = 200, MOST_BYTES_EACH = 20000;

    private static final ThreadMXBean MACHINE = (ThreadMXBean) ManagementFactory.getThreadMXBean();
    private static long sum = 0;

    public static void main(String[] args) {
        Dues.due("bytes that the calls made", leastByCalls(), 0);
        long ahead = made();
        for (int i = 0; i < OBJECTS; i++) {
            sum += new DreamGraves().count(0);
        }
        long each = (made() - ahead) / OBJECTS;
        Dues.holds("an object takes " + each + " bytes, not too many", each < MOST_BYTES_EACH);
        Dues.holds("the calls were made", sum != 0);
        Dues.end();
    }

    /** Of several rounds the least: what the machine makes when something is used first is not the calls' own. */
    private static long leastByCalls() {
        long least = Long.MAX_VALUE;
        for (int round = 0; round < ROUNDS; round++) {
            DreamGraves x = new DreamGraves();
            long ahead = made();
            useAll(x);
            least = Math.min(least, made() - ahead);
        }
        return least;
    }

    private static long made() {
        return MACHINE.getCurrentThreadAllocatedBytes();
    }

    private static void useAll(DreamGraves x) {
        read(x, "g6,3,4;t27,20,9,0,5,3;w1,2,3,4,5,6;s9,9,9,9,9,9;m0,0,0,0,0,1;d12,13,14,15,16,17;");
        read(x, "g6,3,444;");
        rows(x);
        deeds(x);
        foretold(x);
        asked(x);
        sum += x.years(24) + x.undo() + x.image(1) + x.restore(0) + x.restore(1) + x.drop(1) + x.status();
    }

    private static void read(DreamGraves x, String text) {
        for (int i = 0; i < text.length(); i++) {
            sum += x.feed(text.charAt(i));
        }
        sum += x.yard() + x.fault();
    }

    private static void rows(DreamGraves x) {
        sum += x.row(0, 0, 40) + x.row(1, 1, 40) + x.row(1, 2, 40) + x.row(2, 2, 0) + x.row(2, 2, 12);
        sum += x.set(1, 0, 63) + x.set(2, 3, 7) + x.copy(1, 0, 2, 0, 12) + x.copy(0, 0, 1, 0, 1) + x.drop(2);
    }

    private static void deeds(DreamGraves x) {
        sum += x.supper(0) + x.fever(4) + x.image(0) + x.years(3) + x.tell(1, 0);
        for (int g = 0; g < 6; g++) {
            sum += x.bury(g, 2) + x.grave(g, 0) + x.grave(g, 1) + x.memory(3, g);
        }
        for (int s = 0; s < 5; s++) {
            sum += x.sleeper(s, 0) + x.sleeper(s, 1) + x.sleeper(s, 2) + x.sleeper(s, 3);
        }
        sum += x.undo() + x.undo();
    }

    private static void foretold(DreamGraves x) {
        sum += x.ahead(40) + x.firstDug() + x.cheese(40) + x.drawn(40, 999999, 0) + x.drawn(40, 1, 1);
        for (int n = 1; n <= 3; n++) {
            sum += x.suppers(63, n, -1) + x.suppers(9, n, 0) + x.suppers(0, n, n - 1);
        }
        for (int g = 0; g < 6; g++) {
            sum += x.dug(g) + x.bound(g) + x.forgets(0, g) + x.awake(g, 3, 0) + x.whispered(g, 1, 0, 6);
        }
        for (int s = 0; s < 5; s++) {
            sum += x.most(s, 0) + x.pair(s, 4 - s) + x.who(s, 1, 0, 12);
        }
    }

    private static void asked(DreamGraves x) {
        for (int s = 0; s < 5; s++) {
            sum += x.kind(s) + x.as(s, 1) + x.ask(s, 0) + x.ask(s, 1) + x.trace(3);
        }
        for (int what = 0; what < 9; what++) {
            sum += x.count(what);
        }
    }

    private RoomTest() {
    }
}
