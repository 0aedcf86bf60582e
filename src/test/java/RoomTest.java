import java.lang.management.ManagementFactory;

/** What the dearest run of 512 calls makes: the room holds some 7.3 million fields and elements for all runs. */
public final class RoomTest {
    private static final int CALLS = 512;
    private static final long MOST_BYTES = 200_000;
    private static final Due due = new Due();

    public static void main(String[] args) {
        runWithManyAlarms();
        long before = bytesMade();
        Probeweb mesh = runWithManyAlarms();
        long made = bytesMade() - before;
        int alarms = mesh.alarms();
        System.out.println(made + " bytes made, " + alarms + " alarms in " + mesh.minute() + " minutes");
        due.is("alarms are raised in the run", alarms > 500, true);
        due.is("at most " + MOST_BYTES + " bytes are made", made <= MOST_BYTES, true);
        due.end();
    }

    /** Every other pair of calls cuts a region and gives it back, which wakes all checks; two calls are left. */
    private static Probeweb runWithManyAlarms() {
        Probeweb mesh = new Probeweb();
        for (int region = 0; region < 6; region++) {
            mesh.addRegion(-1);
        }
        for (int check = 0; check < 8; check++) {
            mesh.addCheck(1 + check, 3 * check, check % 4, 1);
        }
        for (int call = 14; call < CALLS - 2; call += 2) {
            mesh.setCut(call / 4 % 6, call % 4 == 2);
            mesh.pass(200);
        }
        return mesh;
    }

    private static long bytesMade() {
        com.sun.management.ThreadMXBean threads =
                (com.sun.management.ThreadMXBean) ManagementFactory.getThreadMXBean();
        return threads.getThreadAllocatedBytes(Thread.currentThread().getId());
    }
}
