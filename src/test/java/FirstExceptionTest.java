/** If several exceptions apply: no such number goes first, then a range, then what is not possible now. */
public final class FirstExceptionTest {
    private static final Due due = new Due();
    private static final int[] NO_CHECK = {-1, 8, Integer.MIN_VALUE, Integer.MAX_VALUE};
    private static final int[] NO_QUORUM = {0, 7, -1, Integer.MIN_VALUE, Integer.MAX_VALUE};
    private static final int[] NO_FIRST = {-1, 100001, Integer.MIN_VALUE, Integer.MAX_VALUE};
    private static final int[] NO_MINUTES = {0, 10001, -1, Integer.MIN_VALUE, Integer.MAX_VALUE};

    public static void main(String[] args) {
        promise2NoParentBeforeSixRegions();
        promise3RangeBeforeEightChecks();
        promise6NoCheckBeforeRange();
        promise7NoCheckBeforeRange();
        promise7NoCheckBeforeTwelveWindows();
        promise7RangeBeforeTwelveWindows();
        promise7AllThree();
        promise25NoCheckBeforeNotCounted();
        due.end();
    }

    private static void promise2NoParentBeforeSixRegions() {
        Probeweb mesh = Meshes.full();
        for (int parent : new int[] {-2, 6, Integer.MIN_VALUE, Integer.MAX_VALUE}) {
            due.noIndex("addRegion(" + parent + "), 6 regions", () -> mesh.addRegion(parent));
        }
        for (int parent = -1; parent < 6; parent++) {
            int any = parent;
            due.badState("addRegion(" + parent + "), 6 regions", () -> mesh.addRegion(any));
        }
    }

    private static void promise3RangeBeforeEightChecks() {
        Probeweb mesh = Meshes.full();
        int[] good = {1, 0, 0, 1};
        int[][] beyond = {{0, 61}, {-1, 1001}, {-1, 4}, {0, 7}};
        for (int i = 0; i < 4; i++) {
            for (int value : new int[] {beyond[i][0], beyond[i][1], Integer.MIN_VALUE, Integer.MAX_VALUE}) {
                int[] at = good.clone();
                at[i] = value;
                String call = "addCheck(" + at[0] + ", " + at[1] + ", " + at[2] + ", " + at[3] + "), 8 checks";
                due.badArgument(call, () -> mesh.addCheck(at[0], at[1], at[2], at[3]));
            }
        }
        due.badState("addCheck(1, 0, 0, 1), 8 checks", () -> mesh.addCheck(1, 0, 0, 1));
        due.badState("addCheck(60, 1000, 3, 6), 8 checks", () -> mesh.addCheck(60, 1000, 3, 6));
    }

    private static void promise6NoCheckBeforeRange() {
        Probeweb mesh = Meshes.full();
        for (int quorum : NO_QUORUM) {
            for (int check : NO_CHECK) {
                due.noIndex("setQuorum(" + check + ", " + quorum + ")", () -> mesh.setQuorum(check, quorum));
            }
            due.noIndex("setQuorum(0, " + quorum + "), no check", () -> new Probeweb().setQuorum(0, quorum));
            due.badArgument("setQuorum(7, " + quorum + ")", () -> mesh.setQuorum(7, quorum));
        }
    }

    private static void promise7NoCheckBeforeRange() {
        Probeweb mesh = Meshes.simple(6, 8);
        for (int check : NO_CHECK) {
            for (int first : NO_FIRST) {
                due.noIndex(window(check, first, 5), () -> mesh.addWindow(check, first, 5));
            }
            for (int minutes : NO_MINUTES) {
                due.noIndex(window(check, 5, minutes), () -> mesh.addWindow(check, 5, minutes));
                due.noIndex(window(check, -1, minutes), () -> mesh.addWindow(check, -1, minutes));
            }
        }
        due.noIndex("addWindow(0, -1, 0), no check", () -> new Probeweb().addWindow(0, -1, 0));
        due.is("addWindow(7, 5, 5)", mesh.addWindow(7, 5, 5), 0);
    }

    private static void promise7NoCheckBeforeTwelveWindows() {
        Probeweb mesh = Meshes.full();
        for (int check : NO_CHECK) {
            due.noIndex(window(check, 5, 5) + ", 12 windows", () -> mesh.addWindow(check, 5, 5));
        }
        for (int check = 0; check < 8; check++) {
            int any = check;
            due.badState(window(check, 5, 5) + ", 12 windows", () -> mesh.addWindow(any, 5, 5));
        }
    }

    private static void promise7RangeBeforeTwelveWindows() {
        Probeweb mesh = Meshes.full();
        for (int first : NO_FIRST) {
            due.badArgument(window(7, first, 5) + ", 12 windows", () -> mesh.addWindow(7, first, 5));
        }
        for (int minutes : NO_MINUTES) {
            due.badArgument(window(7, 5, minutes) + ", 12 windows", () -> mesh.addWindow(7, 5, minutes));
        }
        due.badState("addWindow(7, 0, 1), 12 windows", () -> mesh.addWindow(7, 0, 1));
        due.badState("addWindow(7, 100000, 10000), 12 windows", () -> mesh.addWindow(7, 100000, 10000));
    }

    private static void promise7AllThree() {
        Probeweb mesh = Meshes.full();
        for (int check : NO_CHECK) {
            for (int minutes : NO_MINUTES) {
                due.noIndex(window(check, 5, minutes) + ", 12 windows", () -> mesh.addWindow(check, 5, minutes));
                due.noIndex(window(check, -1, minutes) + ", 12 windows", () -> mesh.addWindow(check, -1, minutes));
            }
        }
    }

    private static String window(int check, int first, int minutes) {
        return "addWindow(" + check + ", " + first + ", " + minutes + ")";
    }

    private static void promise25NoCheckBeforeNotCounted() {
        Probeweb mesh = Meshes.simple(6, 8);
        for (int check : NO_CHECK) {
            due.noIndex("availability(" + check + "), none counted", () -> (long) mesh.availability(check));
        }
        due.badState("availability(0), not counted", () -> (long) mesh.availability(0));
        due.badState("availability(7), not counted", () -> (long) mesh.availability(7));
        due.noIndex("availability(0), no check", () -> (long) new Probeweb().availability(0));
    }
}
