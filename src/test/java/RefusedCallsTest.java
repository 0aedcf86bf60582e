/**
 * A call that throws an exception changes nothing, and lets no minute pass: each refused call, on
 * meshes of each stage, is looked for in all that can be asked, at once and when time has gone on.
 */
public final class RefusedCallsTest {
    private static final String NO_INDEX = "throws.IndexOutOfBoundsException";
    private static final String BAD_ARGUMENT = "throws.IllegalArgumentException";
    private static final String BAD_STATE = "throws.IllegalStateException";
    private static final int LATER = 9;
    private static final Due due = new Due();

    private interface Made {
        Probeweb mesh();
    }

    private interface Refused {
        long answer(Probeweb mesh);
    }

    private final String stage;
    private final Made made;
    private final int regions;
    private final int checks;
    private final int windows;

    private RefusedCallsTest(String stage, Made made, int regions, int checks, int windows) {
        this.stage = stage;
        this.made = made;
        this.regions = regions;
        this.checks = checks;
        this.windows = windows;
    }

    public static void main(String[] args) {
        RefusedCallsTest empty = new RefusedCallsTest("empty", Probeweb::new, 0, 0, 0);
        empty.refuseNumbers();
        empty.refuseNewChecks();
        empty.refuseMinutes();

        RefusedCallsTest small = new RefusedCallsTest("small", RefusedCallsTest::smallMesh, 2, 1, 1);
        small.refuseNumbers();
        small.refuseNewChecks();
        small.refuseMinutes();
        small.refuseRanges(0);
        small.refuse("availability(0)", BAD_STATE, mesh -> (long) mesh.availability(0));

        for (int minutes : new int[] {0, 7, 30}) {
            String stage = "full in " + minutes;
            RefusedCallsTest full = new RefusedCallsTest(stage, () -> fullMesh(minutes), 6, 8, 12);
            full.refuseNumbers();
            full.refuseNewChecks();
            full.refuseMinutes();
            full.refuseRanges(0);
            full.refuseRanges(7);
            full.refuseMore();
        }
        due.end();
    }

    /** In minute 1, with repetitions planned, a window that is open, and no verdict yet. */
    private static Probeweb smallMesh() {
        Probeweb mesh = new Probeweb();
        mesh.addRegion(-1);
        mesh.addRegion(0);
        mesh.addCheck(1, 0, 2, 1);
        mesh.addWindow(0, 0, 8);
        mesh.setDown(0, 0, true);
        mesh.setDown(0, 1, true);
        mesh.pass(1);
        return mesh;
    }

    private static Probeweb fullMesh(int minutes) {
        Probeweb mesh = Meshes.full();
        if (minutes > 0) {
            mesh.pass(minutes);
        }
        return mesh;
    }

    private void refuse(String call, String exception, Refused refused) {
        refuse(call, exception, refused, 0);
        refuse(call, exception, refused, LATER);
    }

    private void refuse(String call, String exception, Refused refused, int later) {
        Probeweb refusing = made.mesh();
        Probeweb untouched = made.mesh();
        String where = stage + ", " + call;
        due.is(where, Due.outcome(() -> refused.answer(refusing)), exception);
        if (later > 0) {
            due.is(where + ": pass(" + later + ") after it", refusing.pass(later), untouched.pass(later));
        }
        due.is(where + ": seen " + later + " minutes after it", seen(refusing), seen(untouched));
    }

    private String seen(Probeweb mesh) {
        return Seen.of(mesh, regions, checks) + Seen.bySetting(mesh, regions, checks, windows);
    }

    private void refuseNumbers() {
        for (int far : new int[] {-2, 32, 256, Integer.MIN_VALUE, Integer.MAX_VALUE}) {
            refuseRegion(far);
            refuseCheck(far);
            refuseWindowAndAlarm(far, far);
            refuse("addRegion(" + far + ")", NO_INDEX, mesh -> mesh.addRegion(far));
        }
        refuseRegion(-1);
        refuseRegion(regions);
        refuseCheck(-1);
        refuseCheck(checks);
        refuseWindowAndAlarm(-1, -1);
        refuseWindowAndAlarm(windows, made.mesh().alarms());
        refuse("addRegion(" + regions + ")", NO_INDEX, mesh -> mesh.addRegion(regions));
    }

    private void refuseRegion(int r) {
        refuse("setCut(" + r + ", true)", NO_INDEX, mesh -> Due.number(mesh.setCut(r, true)));
        refuse("setCut(" + r + ", false)", NO_INDEX, mesh -> Due.number(mesh.setCut(r, false)));
        refuse("probes(" + r + ")", NO_INDEX, mesh -> mesh.probes(r));
        refuse("failures(" + r + ")", NO_INDEX, mesh -> mesh.failures(r));
        refuse("isBad(" + r + ")", NO_INDEX, mesh -> Due.number(mesh.isBad(r)));
        for (int check : new int[] {0, checks - 1}) {
            refusePair(check, r);
        }
    }

    private void refuseCheck(int c) {
        refuse("setQuorum(" + c + ", 5)", NO_INDEX, mesh -> mesh.setQuorum(c, 5));
        refuse("setQuorum(" + c + ", 7)", NO_INDEX, mesh -> mesh.setQuorum(c, 7));
        refuse("addWindow(" + c + ", 0, 50)", NO_INDEX, mesh -> mesh.addWindow(c, 0, 50));
        refuse("addWindow(" + c + ", -1, 0)", NO_INDEX, mesh -> mesh.addWindow(c, -1, 0));
        refuse("failing(" + c + ")", NO_INDEX, mesh -> mesh.failing(c));
        refuse("verdict(" + c + ")", NO_INDEX, mesh -> mesh.verdict(c));
        refuse("trusted(" + c + ")", NO_INDEX, mesh -> mesh.trusted(c));
        refuse("hasAlarm(" + c + ")", NO_INDEX, mesh -> Due.number(mesh.hasAlarm(c)));
        refuse("availability(" + c + ")", NO_INDEX, mesh -> (long) mesh.availability(c));
        for (int region : new int[] {0, regions - 1}) {
            refusePair(c, region);
        }
    }

    private void refusePair(int c, int r) {
        String pair = "(" + c + ", " + r;
        refuse("setDown" + pair + ", true)", NO_INDEX, mesh -> Due.number(mesh.setDown(c, r, true)));
        refuse("setDown" + pair + ", false)", NO_INDEX, mesh -> Due.number(mesh.setDown(c, r, false)));
        refuse("nextProbe" + pair + ")", NO_INDEX, mesh -> mesh.nextProbe(c, r));
        refuse("repetition" + pair + ")", NO_INDEX, mesh -> mesh.repetition(c, r));
        refuse("vote" + pair + ")", NO_INDEX, mesh -> mesh.vote(c, r));
    }

    private void refuseWindowAndAlarm(int w, int a) {
        refuse("endWindow(" + w + ")", NO_INDEX, mesh -> mesh.endWindow(w));
        refuse("alarmCheck(" + a + ")", NO_INDEX, mesh -> mesh.alarmCheck(a));
        refuse("alarmRaised(" + a + ")", NO_INDEX, mesh -> mesh.alarmRaised(a));
        refuse("alarmClosed(" + a + ")", NO_INDEX, mesh -> mesh.alarmClosed(a));
    }

    private void refuseNewChecks() {
        refuse("addCheck(0, 0, 0, 1)", BAD_ARGUMENT, mesh -> mesh.addCheck(0, 0, 0, 1));
        refuse("addCheck(61, 0, 0, 1)", BAD_ARGUMENT, mesh -> mesh.addCheck(61, 0, 0, 1));
        refuse("addCheck(1, -1, 0, 1)", BAD_ARGUMENT, mesh -> mesh.addCheck(1, -1, 0, 1));
        refuse("addCheck(1, 1001, 0, 1)", BAD_ARGUMENT, mesh -> mesh.addCheck(1, 1001, 0, 1));
        refuse("addCheck(1, 0, -1, 1)", BAD_ARGUMENT, mesh -> mesh.addCheck(1, 0, -1, 1));
        refuse("addCheck(1, 0, 4, 1)", BAD_ARGUMENT, mesh -> mesh.addCheck(1, 0, 4, 1));
        refuse("addCheck(1, 0, 0, 0)", BAD_ARGUMENT, mesh -> mesh.addCheck(1, 0, 0, 0));
        refuse("addCheck(1, 0, 0, 7)", BAD_ARGUMENT, mesh -> mesh.addCheck(1, 0, 0, 7));
    }

    private void refuseMinutes() {
        for (int minutes : new int[] {0, 201, -1, -200, Integer.MIN_VALUE, Integer.MAX_VALUE}) {
            refuse("pass(" + minutes + ")", BAD_ARGUMENT, mesh -> mesh.pass(minutes));
        }
    }

    private void refuseRanges(int c) {
        for (int quorum : new int[] {0, 7, Integer.MIN_VALUE, Integer.MAX_VALUE}) {
            refuse("setQuorum(" + c + ", " + quorum + ")", BAD_ARGUMENT, mesh -> mesh.setQuorum(c, quorum));
        }
        for (int first : new int[] {-1, 100001, Integer.MIN_VALUE, Integer.MAX_VALUE}) {
            String call = "addWindow(" + c + ", " + first + ", 50)";
            refuse(call, BAD_ARGUMENT, mesh -> mesh.addWindow(c, first, 50));
        }
        for (int minutes : new int[] {0, 10001, Integer.MIN_VALUE, Integer.MAX_VALUE}) {
            String call = "addWindow(" + c + ", 0, " + minutes + ")";
            refuse(call, BAD_ARGUMENT, mesh -> mesh.addWindow(c, 0, minutes));
        }
    }

    private void refuseMore() {
        refuse("addRegion(-1)", BAD_STATE, mesh -> mesh.addRegion(-1));
        refuse("addRegion(5)", BAD_STATE, mesh -> mesh.addRegion(5));
        refuse("addCheck(1, 0, 0, 1)", BAD_STATE, mesh -> mesh.addCheck(1, 0, 0, 1));
        for (int check = 0; check < 8; check++) {
            int c = check;
            refuse("addWindow(" + c + ", 0, 10000)", BAD_STATE, mesh -> mesh.addWindow(c, 0, 10000));
        }
    }
}
