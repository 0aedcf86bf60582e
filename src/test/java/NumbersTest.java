/** The numbers of regions, checks, windows and alarms: those that are there are taken, and no other ones. */
public final class NumbersTest {
    private static final Due due = new Due();

    /** A call that takes a number. */
    private interface Numbered {
        long answer(Probeweb mesh, int number);
    }

    public static void main(String[] args) {
        promise2Parents();
        regionsOfChecks();
        regions();
        checksOfRegions();
        checks();
        promise8Windows();
        promises22To24Alarms();
        neitherCheckNorRegion();
        due.end();
    }

    /**
     * Beside the numbers just outside and the far ones, those that a shift by a number, or a number
     * of bytes or without its sign, would take for one of the first.
     */
    private static int[] strangers(int size) {
        return new int[] {-1, -2, -size - 1, -31, -32, -33, size, size + 1, size + 32, size + 64, size + 256,
            99, 65536, Integer.MAX_VALUE, Integer.MAX_VALUE - 1, Integer.MIN_VALUE, Integer.MIN_VALUE + 1};
    }

    private static void compareNumbers(String call, Probeweb mesh, int size, Numbered made) {
        for (int number = 0; number < size; number++) {
            int n = number;
            String outcome = Due.outcome(() -> made.answer(mesh, n));
            due.is(call + " of " + size + " with " + n + " throws", outcome.startsWith("throws"), false);
        }
        for (int stranger : strangers(size)) {
            due.noIndex(call + " of " + size + " with " + stranger, () -> made.answer(mesh, stranger));
        }
    }

    /** In minute 0, and when each check has been counted. */
    private static void compareRegions(String call, Numbered made) {
        for (int regions = 0; regions <= 6; regions++) {
            compareNumbers(call, Meshes.simple(regions, 8), regions, made);
            compareNumbers(call, later(Meshes.simple(regions, 8)), regions, made);
        }
    }

    private static void compareChecks(String call, Numbered made) {
        for (int checks = 0; checks <= 8; checks++) {
            compareNumbers(call, later(Meshes.simple(6, checks)), checks, made);
        }
    }

    private static Probeweb later(Probeweb mesh) {
        mesh.pass(6);
        return mesh;
    }

    /** A region that is added is not yet a region: one past the last stands for itself, too. */
    private static void promise2Parents() {
        for (int regions = 0; regions <= 6; regions++) {
            Probeweb mesh = Meshes.simple(regions, 0);
            for (int stranger : strangers(regions)) {
                if (stranger != -1) {
                    due.noIndex("addRegion(" + stranger + ") to " + regions, () -> mesh.addRegion(stranger));
                }
            }
            for (int parent = -1; parent < regions && regions < 6; parent++) {
                int answer = Meshes.simple(regions, 0).addRegion(parent);
                due.is("addRegion(" + parent + ") to " + regions, answer, regions);
            }
        }
    }

    private static void regionsOfChecks() {
        for (int check : new int[] {0, 7}) {
            String of = "(" + check + ", region)";
            compareRegions("setDown" + of, (mesh, region) -> Due.number(mesh.setDown(check, region, true)));
            compareRegions("nextProbe" + of, (mesh, region) -> mesh.nextProbe(check, region));
            compareRegions("repetition" + of, (mesh, region) -> mesh.repetition(check, region));
            compareRegions("vote" + of, (mesh, region) -> mesh.vote(check, region));
        }
    }

    private static void regions() {
        compareRegions("setCut(region)", (mesh, region) -> Due.number(mesh.setCut(region, true)));
        compareRegions("probes(region)", (mesh, region) -> mesh.probes(region));
        compareRegions("failures(region)", (mesh, region) -> mesh.failures(region));
        compareRegions("isBad(region)", (mesh, region) -> Due.number(mesh.isBad(region)));
    }

    private static void checksOfRegions() {
        for (int region : new int[] {0, 5}) {
            String of = "(check, " + region + ")";
            compareChecks("setDown" + of, (mesh, check) -> Due.number(mesh.setDown(check, region, true)));
            compareChecks("nextProbe" + of, (mesh, check) -> mesh.nextProbe(check, region));
            compareChecks("repetition" + of, (mesh, check) -> mesh.repetition(check, region));
            compareChecks("vote" + of, (mesh, check) -> mesh.vote(check, region));
        }
    }

    private static void checks() {
        compareChecks("setQuorum(check)", (mesh, check) -> mesh.setQuorum(check, 3));
        compareChecks("addWindow(check)", (mesh, check) -> mesh.addWindow(check, 5, 5));
        compareChecks("failing(check)", (mesh, check) -> mesh.failing(check));
        compareChecks("verdict(check)", (mesh, check) -> mesh.verdict(check));
        compareChecks("trusted(check)", (mesh, check) -> mesh.trusted(check));
        compareChecks("hasAlarm(check)", (mesh, check) -> Due.number(mesh.hasAlarm(check)));
        compareChecks("availability(check)", (mesh, check) -> (long) mesh.availability(check));
    }

    private static void promise8Windows() {
        for (int windows = 0; windows <= 12; windows++) {
            Probeweb mesh = Meshes.simple(0, 8);
            for (int window = 0; window < windows; window++) {
                mesh.addWindow(window % 8, window, 5);
            }
            compareNumbers("endWindow(window)", mesh, windows, Probeweb::endWindow);
            compareNumbers("endWindow(window), ended", mesh, windows, Probeweb::endWindow);
        }
    }

    private static void promises22To24Alarms() {
        for (int alarms : new int[] {0, 1, 2, 7, 13}) {
            Probeweb mesh = Meshes.simple(1, 1);
            for (int alarm = 0; alarm < alarms; alarm++) {
                mesh.setDown(0, 0, true);
                mesh.pass(1);
                mesh.setDown(0, 0, false);
                mesh.pass(1);
            }
            due.is("alarms()", mesh.alarms(), alarms);
            compareNumbers("alarmCheck(alarm)", mesh, alarms, Probeweb::alarmCheck);
            compareNumbers("alarmRaised(alarm)", mesh, alarms, Probeweb::alarmRaised);
            compareNumbers("alarmClosed(alarm)", mesh, alarms, Probeweb::alarmClosed);
        }
    }

    private static void neitherCheckNorRegion() {
        Probeweb mesh = later(Meshes.simple(6, 8));
        for (int check : new int[] {-1, 8, Integer.MIN_VALUE, Integer.MAX_VALUE}) {
            for (int region : new int[] {-1, 6, Integer.MIN_VALUE, Integer.MAX_VALUE}) {
                String of = "(" + check + ", " + region + ")";
                due.noIndex("setDown" + of, () -> Due.number(mesh.setDown(check, region, true)));
                due.noIndex("nextProbe" + of, () -> mesh.nextProbe(check, region));
                due.noIndex("repetition" + of, () -> mesh.repetition(check, region));
                due.noIndex("vote" + of, () -> mesh.vote(check, region));
            }
        }
    }
}
