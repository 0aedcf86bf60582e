/** A call that throws an exception changes nothing, in a mesh that stands and as it goes on. */
public final class RefusedCallsTest {
    private static final Due due = new Due();

    public static void main(String[] args) {
        Probeweb refusing = fullMesh();
        Probeweb untouched = fullMesh();
        for (int round = 0; round < 6; round++) {
            String before = Seen.of(refusing, 6, 8);
            refuseRegionsAndChecks(refusing);
            refuseWindowsAndMinutes(refusing);
            due.is("round " + round + ": after refused calls", Seen.of(refusing, 6, 8), before);
            due.is("round " + round + ": pass(9)", refusing.pass(9), untouched.pass(9));
            due.is("round " + round + ": as it goes on", Seen.of(refusing, 6, 8), Seen.of(untouched, 6, 8));
        }
        compareWhatIsSet(refusing, untouched);
        due.end();
    }

    private static void refuseRegionsAndChecks(Probeweb mesh) {
        due.badState("addRegion(-1)", () -> mesh.addRegion(-1));
        due.badState("addRegion(0)", () -> mesh.addRegion(0));
        due.noIndex("addRegion(6)", () -> mesh.addRegion(6));
        due.badState("addCheck(1, 0, 0, 1)", () -> mesh.addCheck(1, 0, 0, 1));
        due.badArgument("addCheck(1, 0, 0, 9)", () -> mesh.addCheck(1, 0, 0, 9));
        for (int check = 0; check < 8; check++) {
            int c = check;
            due.noIndex("setDown(c, 6, true)", () -> Due.number(mesh.setDown(c, 6, true)));
            due.noIndex("setDown(c, -1, true)", () -> Due.number(mesh.setDown(c, -1, true)));
            due.noIndex("setDown(c, 32, true)", () -> Due.number(mesh.setDown(c, 32, true)));
            due.badArgument("setQuorum(c, 0)", () -> mesh.setQuorum(c, 0));
            due.badArgument("setQuorum(c, 7)", () -> mesh.setQuorum(c, 7));
        }
        for (int region = 0; region < 6; region++) {
            int r = region;
            due.noIndex("setDown(8, r, true)", () -> Due.number(mesh.setDown(8, r, true)));
            due.noIndex("setDown(-1, r, true)", () -> Due.number(mesh.setDown(-1, r, true)));
        }
        due.noIndex("setCut(6, true)", () -> Due.number(mesh.setCut(6, true)));
        due.noIndex("setCut(-1, true)", () -> Due.number(mesh.setCut(-1, true)));
        due.noIndex("setQuorum(8, 1)", () -> mesh.setQuorum(8, 1));
    }

    private static void refuseWindowsAndMinutes(Probeweb mesh) {
        for (int check = 0; check < 8; check++) {
            int c = check;
            due.badState("addWindow(c, 0, 10000)", () -> mesh.addWindow(c, 0, 10000));
            due.badArgument("addWindow(c, -1, 10000)", () -> mesh.addWindow(c, -1, 10000));
            due.badArgument("addWindow(c, 0, 10001)", () -> mesh.addWindow(c, 0, 10001));
        }
        due.noIndex("addWindow(8, 0, 10000)", () -> mesh.addWindow(8, 0, 10000));
        due.noIndex("endWindow(12)", () -> mesh.endWindow(12));
        due.noIndex("endWindow(-1)", () -> mesh.endWindow(-1));
        due.badArgument("pass(0)", () -> mesh.pass(0));
        due.badArgument("pass(201)", () -> mesh.pass(201));
    }

    private static void compareWhatIsSet(Probeweb refusing, Probeweb untouched) {
        for (int check = 0; check < 8; check++) {
            due.is("setQuorum(c, 1)", refusing.setQuorum(check, 1), untouched.setQuorum(check, 1));
        }
        for (int region = 0; region < 6; region++) {
            due.is("setCut(r, false)", refusing.setCut(region, false), untouched.setCut(region, false));
        }
        for (int window = 0; window < 12; window++) {
            due.is("endWindow(w)", refusing.endWindow(window), untouched.endWindow(window));
        }
    }

    /** As many regions, checks and windows as there can be. */
    private static Probeweb fullMesh() {
        Probeweb mesh = new Probeweb();
        for (int region = 0; region < 6; region++) {
            mesh.addRegion(region % 3 - 1);
        }
        for (int check = 0; check < 8; check++) {
            mesh.addCheck(check + 1, 2 * check, check % 4, check % 3 + 1);
            mesh.setDown(check, check % 6, true);
            mesh.setDown(check, (check + 2) % 6, true);
        }
        for (int window = 0; window < 12; window++) {
            mesh.addWindow(window % 8, 3 * window, window + 1);
        }
        mesh.setCut(4, true);
        return mesh;
    }
}
