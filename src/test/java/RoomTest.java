import java.lang.management.ManagementFactory;

/** LANGUAGE.md, rule 12, and the one room of a run: the calls make no objects; only the constructor does. */
public final class RoomTest {
    /** The constructor alone takes some 7300; a row of 64 numbers in any one of the calls would take 8700 more. */
    private static final long MOST_BYTES = 12_000;

    public static void main(String[] args) {
        Checks c = new Checks();
        makeCalls();
        com.sun.management.ThreadMXBean room = (com.sun.management.ThreadMXBean) ManagementFactory.getThreadMXBean();
        long before = room.getCurrentThreadAllocatedBytes();
        makeCalls();
        long bytes = room.getCurrentThreadAllocatedBytes() - before;
        if (bytes > MOST_BYTES) {
            c.tell("512 calls took " + bytes + " bytes, at most " + MOST_BYTES + " are due");
        }
        c.end();
    }

    private static void makeCalls() {
        PaddyTerraces x = new PaddyTerraces();
        long used = 0;
        for (int round = 0; round < 32; round++) {
            used += x.lay(8, 8) + x.setField(0, 0, 120, 2) + x.moveStone(0, 0, 50) + x.turn(0, 0, 1);
            used += x.setShare(0, 2) + x.setDay(0, 5, 100, 2) + x.plant(0, 0, 20) + x.plant(7, 7, 20) + x.pass(2);
            used += x.field(0, 0, 0) + x.count(4) + x.weather(0, 0) + x.foresee(20, 0) + x.advise(10, 0);
            used += (long) x.depth() + x.digest();
        }
        if (used == 0) {
            System.out.println("the answers are used, so that no call is left out");
        }
    }
}
