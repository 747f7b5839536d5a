import java.lang.management.ManagementFactory;

/** The dearest calls, as many as an object is used for: they make no objects, and they end soon. */
public final class RoomTest {
    private static final long MOST_BYTES = 100_000;

    public static void main(String[] args) {
        com.sun.management.ThreadMXBean threads =
                (com.sun.management.ThreadMXBean) ManagementFactory.getThreadMXBean();
        long id = Thread.currentThread().getId();
        allCalls(new AerialSurvey(), 8);
        long start = threads.getThreadAllocatedBytes(id);
        AerialSurvey x = new AerialSurvey();
        long made = threads.getThreadAllocatedBytes(id) - start;
        Due.due("a new object takes " + made + " bytes, a small part of the room", made < MOST_BYTES);
        start = threads.getThreadAllocatedBytes(id);
        allCalls(x, 496);
        long used = threads.getThreadAllocatedBytes(id) - start;
        Due.due("508 calls take " + used + " bytes, a small part of the room", used < MOST_BYTES);
        Due.end();
    }

    private static void allCalls(AerialSurvey x, int calls) {
        x.resize(10, 16);
        x.setAltitude(999);
        x.setFields(50, 50);
        // No photo sees the last cell, so every plan is tried to its end.
        x.setHeight(9, 15, 999);
        for (int strip = 0; strip < 8; strip++) {
            x.addStrip(strip, 0, 15, 1);
        }
        for (int call = 0; call < calls; call += 8) {
            Due.due("planPhotos(9)", x.planPhotos(9), -6);
            Due.due("applyPlan(9)", x.applyPlan(9), -6);
            Due.due("gapCount(9)", x.gapCount(9), 1);
            Due.due("gapAt(9, 0)", x.gapAt(9, 0), 915);
            Due.due("sideOverlap(0, 7)", x.sideOverlap(0, 7), 100);
            Due.due("forwardOverlap(0, 0)", x.forwardOverlap(0, 0), 100);
            Due.due("routeTime(0, 0)", x.routeTime(0, 0), 1750);
            Due.due("routeStep(0, 0, 7)", x.routeStep(0, 0, 7), 15);
        }
    }
}
