/** As far as 512 calls on one object reach: the last minutes, and what is counted till then. */
public final class FarMinutesTest {
    private static final Due due = new Due();

    public static void main(String[] args) {
        promise10LastMinute();
        promise9AlarmsOfTheFirstAndTheLastMinute();
        promise7FirstMinuteAtItsEnd();
        promise7LongestWindow();
        promise12FarProbes();
        promise15FarCounts();
        promise20ManyAlarms();
        due.end();
    }

    /** 511 calls of 200 minutes, and one more that asks. */
    private static void promise10LastMinute() {
        Probeweb mesh = new Probeweb();
        for (int call = 0; call < 511; call++) {
            mesh.pass(200);
        }
        due.is("minute() as the 512th call", mesh.minute(), 102200);
    }

    /** An alarm counts in the call in whose minutes it is raised, be it the first of them or the last. */
    private static void promise9AlarmsOfTheFirstAndTheLastMinute() {
        for (int offset = 199; offset <= 202; offset++) {
            Probeweb mesh = Meshes.simple(1, 0);
            mesh.addCheck(60, offset, 0, 1);
            mesh.setDown(0, 0, true);
            due.is("pass(200), raised in " + offset, mesh.pass(200), offset <= 200 ? 1 : 0);
            due.is("pass(1), raised in " + offset, mesh.pass(1), offset == 201 ? 1 : 0);
            due.is("pass(200) again, raised in " + offset, mesh.pass(200), offset == 202 ? 1 : 0);
            due.is("alarmRaised(0)", mesh.alarmRaised(0), offset);
            due.is("pass(1): none anew", mesh.pass(1), 0);
        }
    }

    private static void promise7FirstMinuteAtItsEnd() {
        int[][] downAndRaised = {{99999, 99999}, {100000, 100002}, {100001, 100002}, {100002, 100002}};
        for (int[] asked : downAndRaised) {
            Probeweb mesh = Meshes.simple(1, 1);
            mesh.addWindow(0, 100000, 2);
            Meshes.passMany(mesh, asked[0] - 1);
            due.is("alarms() before " + asked[0], mesh.alarms(), 0);
            mesh.setDown(0, 0, true);
            mesh.pass(5);
            due.is("minutes 100000 and 100001, down in " + asked[0], mesh.alarmRaised(0), asked[1]);
        }
    }

    /** Minutes 90000 to 99999, and minutes 100000 to 109999, of which the last can't be reached. */
    private static void promise7LongestWindow() {
        Probeweb mesh = Meshes.simple(1, 1);
        mesh.addWindow(0, 90000, 10000);
        mesh.addWindow(0, 100000, 10000);
        Meshes.passMany(mesh, 89999);
        mesh.setDown(0, 0, true);
        for (int call = 0; call < 50; call++) {
            due.is("pass(200) in the window", mesh.pass(200), 0);
        }
        due.is("endWindow(0) in 99999", mesh.endWindow(0), 10000);
        due.is("endWindow(1) in 99999", mesh.endWindow(1), 0);
        due.is("pass(1): minute 100000", mesh.pass(1), 1);
        due.is("alarmRaised(0)", mesh.alarmRaised(0), 100000);
    }

    private static void promise12FarProbes() {
        Probeweb mesh = Meshes.simple(6, 0);
        mesh.addCheck(60, 1000, 3, 1);
        mesh.addCheck(59, 0, 0, 1);
        mesh.addCheck(1, 0, 0, 1);
        Meshes.passMany(mesh, 89800);
        due.is("nextProbe(0, 0) in 89800, which is 1480 * 60 + 1000", mesh.nextProbe(0, 0), 89860);
        due.is("nextProbe(0, 1) in 89800: 1480 * 60 + 1001", mesh.nextProbe(0, 1), 89801);
        due.is("nextProbe(0, 5) in 89800: 1480 * 60 + 1005", mesh.nextProbe(0, 5), 89805);
        due.is("nextProbe(1, 0) in 89800: 1523 * 59", mesh.nextProbe(1, 0), 89857);
        due.is("nextProbe(1, 5) in 89800: 1522 * 59 + 5", mesh.nextProbe(1, 5), 89803);
        due.is("nextProbe(2, 5) in 89800", mesh.nextProbe(2, 5), 89801);
        mesh.setDown(0, 1, true);
        mesh.pass(1);
        due.is("repetition(0, 1) in 89801", mesh.repetition(0, 1), 1);
        due.is("nextProbe(0, 1) in 89801: remainder 0", mesh.nextProbe(0, 1), 89802);
    }

    private static void promise15FarCounts() {
        Probeweb mesh = Meshes.simple(6, 8);
        mesh.setDown(7, 5, true);
        Meshes.passMany(mesh, 90000);
        due.is("probes(0) in 90000: 8 each minute", mesh.probes(0), 720000);
        due.is("probes(5) in 90000: 8 each minute from 5 on", mesh.probes(5), 719968);
        due.is("failures(5) in 90000: 1 each minute from 5 on", mesh.failures(5), 89996);
        due.is("failures(0) in 90000", mesh.failures(0), 0);
        due.is("availability(0) in 90000", mesh.availability(0), 1.0f);
        due.is("availability(7) in 90000: up till 4", mesh.availability(7), 4.0f / 90000.0f);
    }

    /** Three calls for each alarm are the fewest: one goes down, time passes, it is up again. */
    private static void promise20ManyAlarms() {
        Probeweb mesh = Meshes.simple(1, 1);
        for (int alarm = 0; alarm < 120; alarm++) {
            mesh.setDown(0, 0, true);
            mesh.pass(1);
            mesh.setDown(0, 0, false);
            mesh.pass(200);
        }
        due.is("alarms()", mesh.alarms(), 120);
        due.is("alarmRaised(119)", mesh.alarmRaised(119), 119 * 201 + 1);
        due.is("alarmClosed(119)", mesh.alarmClosed(119), 119 * 201 + 2);
        due.is("alarmClosed(118)", mesh.alarmClosed(118), 118 * 201 + 2);
        due.is("alarmCheck(119)", mesh.alarmCheck(119), 0);
        due.noIndex("alarmRaised(120)", () -> mesh.alarmRaised(120));
    }
}
