/** A mesh without regions, without checks, or without both, while minutes pass over it. */
public final class EmptyMeshTest {
    private static final Due due = new Due();

    public static void main(String[] args) {
        neitherRegionsNorChecks();
        checksWithoutRegions();
        windowsWithoutRegions();
        regionsWithoutChecks();
        filledLater();
        regionsAfterTheirParentsWereCut();
        due.end();
    }

    private static void neitherRegionsNorChecks() {
        Probeweb mesh = new Probeweb();
        due.is("minute(), new", mesh.minute(), 0);
        due.is("alarms(), new", mesh.alarms(), 0);
        due.is("pass(1), empty", mesh.pass(1), 0);
        due.is("pass(200), empty", mesh.pass(200), 0);
        due.is("minute(), empty in 201", mesh.minute(), 201);
        due.is("alarms(), empty in 201", mesh.alarms(), 0);
        due.noIndex("probes(0), empty in 201", () -> mesh.probes(0));
        due.noIndex("verdict(0), empty in 201", () -> mesh.verdict(0));
        due.noIndex("endWindow(0), empty in 201", () -> mesh.endWindow(0));
        due.noIndex("alarmRaised(0), empty in 201", () -> mesh.alarmRaised(0));
    }

    private static void checksWithoutRegions() {
        Probeweb mesh = Meshes.simple(0, 2);
        for (int minute = 0; minute <= 200; minute += 200) {
            String in = " without regions in " + minute;
            for (int check = 0; check < 2; check++) {
                int c = check;
                due.is("failing" + in, mesh.failing(c), 0);
                due.is("trusted" + in, mesh.trusted(c), 0);
                due.is("verdict" + in, mesh.verdict(c), 0);
                due.is("hasAlarm" + in, mesh.hasAlarm(c), false);
                due.badState("availability" + in, () -> (long) mesh.availability(c));
                due.noIndex("vote" + in, () -> mesh.vote(c, 0));
                due.noIndex("nextProbe" + in, () -> mesh.nextProbe(c, 0));
            }
            due.is("pass(200)" + in, mesh.pass(200), 0);
        }
        due.is("setQuorum(1, 6) without regions", mesh.setQuorum(1, 6), 1);
    }

    private static void windowsWithoutRegions() {
        Probeweb mesh = Meshes.simple(0, 1);
        due.is("addWindow(0, 2, 3) without regions", mesh.addWindow(0, 2, 3), 0);
        mesh.pass(3);
        due.is("endWindow(0) without regions", mesh.endWindow(0), 2);
    }

    private static void regionsWithoutChecks() {
        Probeweb mesh = Meshes.chain(0);
        mesh.setCut(0, true);
        due.is("pass(200) without checks", mesh.pass(200), 0);
        for (int region = 0; region < 6; region++) {
            due.is("probes(" + region + ") without checks", mesh.probes(region), 0);
            due.is("failures(" + region + ") without checks", mesh.failures(region), 0);
            due.is("isBad(" + region + ") without checks", mesh.isBad(region), false);
        }
        due.is("setCut(0, false) without checks", mesh.setCut(0, false), true);
        due.noIndex("failing(0) without checks", () -> mesh.failing(0));
    }

    /** Minutes that passed before count for nothing but the minute and the schedule. */
    private static void filledLater() {
        Probeweb mesh = new Probeweb();
        mesh.pass(9);
        due.is("addRegion(-1) in 9", mesh.addRegion(-1), 0);
        due.is("addCheck(5, 0, 0, 1) in 9", mesh.addCheck(5, 0, 0, 1), 0);
        due.is("vote(0, 0) in 9, just added", mesh.vote(0, 0), 0);
        due.is("repetition(0, 0) in 9, just added", mesh.repetition(0, 0), 0);
        due.is("probes(0) in 9, just added", mesh.probes(0), 0);
        due.is("failures(0) in 9, just added", mesh.failures(0), 0);
        due.is("isBad(0) in 9, just added", mesh.isBad(0), false);
        due.is("verdict(0) in 9, just added", mesh.verdict(0), 0);
        due.badState("availability(0) in 9, just added", () -> (long) mesh.availability(0));
        due.is("nextProbe(0, 0) in 9, just added", mesh.nextProbe(0, 0), 10);
        mesh.pass(1);
        due.is("probes(0) in 10", mesh.probes(0), 1);
        due.is("verdict(0) in 10", mesh.verdict(0), 1);
        due.is("availability(0) in 10: 1 of 1", mesh.availability(0), 1.0f);
    }

    private static void regionsAfterTheirParentsWereCut() {
        Probeweb mesh = Meshes.simple(1, 2);
        mesh.setCut(0, true);
        mesh.pass(1);
        due.is("isBad(0), cut", mesh.isBad(0), true);
        due.is("addRegion(0) under a bad and cut one", mesh.addRegion(0), 1);
        due.is("isBad(1) under a bad one, just added", mesh.isBad(1), false);
        due.is("vote(0, 1) under a bad one, just added", mesh.vote(0, 1), 0);
        due.is("trusted(0), none", mesh.trusted(0), 0);
        due.is("setCut(1, false) under a cut one, just added", mesh.setCut(1, false), false);
        due.is("failing(0) with both", mesh.failing(0), 0b11);
    }
}
