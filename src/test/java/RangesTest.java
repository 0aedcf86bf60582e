/** The ranges of promises 3, 6, 7 and 9: the last values on each side are taken, the first ones beyond are not. */
public final class RangesTest {
    private static final Due due = new Due();

    /** A call on a mesh of its own, with the argument that is looked at; the others are in range. */
    private interface Taking {
        long answer(int value);
    }

    public static void main(String[] args) {
        promise3Ranges();
        promise3Corners();
        promise3IntervalAtItsEnds();
        promise3OffsetAtItsEnds();
        promise3RepetitionsAtTheirEnds();
        promise3QuorumAtItsEnds();
        promise6Range();
        promise7Ranges();
        promise7Corners();
        promise7MinutesAtTheirEnds();
        promise9Range();
        promise9MinutesAtTheirEnds();
        due.end();
    }

    private static void compareRange(String call, int least, int most, long answer, Taking taking) {
        for (int value : new int[] {least, least + 1, most - 1, most}) {
            due.is(call + " with " + value, Due.outcome(() -> taking.answer(value)), String.valueOf(answer));
        }
        int[] beyond = {least - 1, most + 1, -1, -least - 1, -most, Integer.MIN_VALUE, Integer.MAX_VALUE};
        for (int value : beyond) {
            due.badArgument(call + " with " + value, () -> taking.answer(value));
        }
    }

    private static void promise3Ranges() {
        compareRange("addCheck(interval, 7, 1, 2)", 1, 60, 0, value -> new Probeweb().addCheck(value, 7, 1, 2));
        compareRange("addCheck(9, offset, 1, 2)", 0, 1000, 0, value -> new Probeweb().addCheck(9, value, 1, 2));
        compareRange("addCheck(9, 7, repetitions, 2)", 0, 3, 0, value -> new Probeweb().addCheck(9, 7, value, 2));
        compareRange("addCheck(9, 7, 1, quorum)", 1, 6, 0, value -> new Probeweb().addCheck(9, 7, 1, value));
    }

    /** All arguments at their ends, and then each of them in turn one beyond. */
    private static void promise3Corners() {
        int[][] ends = {{1, 60}, {0, 1000}, {0, 3}, {1, 6}};
        for (int corner = 0; corner < 16; corner++) {
            int[] at = corner(ends, corner);
            due.is(check(at), Due.outcome(() -> addCheck(at)), "0");
            for (int i = 0; i < 4; i++) {
                int[] beyond = oneBeyond(at, ends, i);
                due.badArgument(check(beyond), () -> addCheck(beyond));
            }
        }
        due.badArgument("addCheck(0, -1, -1, 0)", () -> new Probeweb().addCheck(0, -1, -1, 0));
        due.badArgument("addCheck(61, 1001, 4, 7)", () -> new Probeweb().addCheck(61, 1001, 4, 7));
    }

    private static String check(int[] at) {
        return "addCheck(" + at[0] + ", " + at[1] + ", " + at[2] + ", " + at[3] + ")";
    }

    private static long addCheck(int[] at) {
        return new Probeweb().addCheck(at[0], at[1], at[2], at[3]);
    }

    /** Bit i of the corner tells at which of its ends argument i is. */
    private static int[] corner(int[][] ends, int corner) {
        int[] at = new int[ends.length];
        for (int i = 0; i < ends.length; i++) {
            at[i] = ends[i][corner >> i & 1];
        }
        return at;
    }

    private static int[] oneBeyond(int[] at, int[][] ends, int i) {
        int[] beyond = at.clone();
        beyond[i] = at[i] == ends[i][0] ? at[i] - 1 : at[i] + 1;
        return beyond;
    }

    private static void promise3IntervalAtItsEnds() {
        Probeweb mesh = new Probeweb();
        mesh.addRegion(-1);
        mesh.addCheck(1, 0, 0, 1);
        mesh.pass(60);
        due.is("interval 1: probes(0) in 60", mesh.probes(0), 60);

        Probeweb seldom = new Probeweb();
        seldom.addRegion(-1);
        seldom.addCheck(60, 0, 0, 1);
        int[][] minutesAndProbes = {{1, 0}, {59, 0}, {60, 1}, {61, 1}, {119, 1}, {120, 2}, {180, 3}};
        for (int[] asked : minutesAndProbes) {
            seldom.pass(asked[0] - seldom.minute());
            due.is("interval 60: probes(0) in " + asked[0], seldom.probes(0), asked[1]);
        }
    }

    private static void promise3OffsetAtItsEnds() {
        Probeweb mesh = new Probeweb();
        mesh.addRegion(-1);
        mesh.addCheck(7, 0, 0, 1);
        mesh.addCheck(7, 1000, 0, 1);
        due.is("offset 0: nextProbe(0, 0)", mesh.nextProbe(0, 0), 7);
        due.is("offset 1000: nextProbe(1, 0)", mesh.nextProbe(1, 0), 1000);
        Meshes.passMany(mesh, 999);
        due.is("offset 1000: vote(1, 0) in 999", mesh.vote(1, 0), 0);
        mesh.pass(1);
        due.is("offset 1000: vote(1, 0) in 1000", mesh.vote(1, 0), 1);
        due.is("offset 1000: nextProbe(1, 0) in 1000", mesh.nextProbe(1, 0), 1007);
    }

    /** How many probes fail until the vote is down. */
    private static void promise3RepetitionsAtTheirEnds() {
        for (int repetitions = 0; repetitions <= 3; repetitions++) {
            Probeweb mesh = new Probeweb();
            mesh.addRegion(-1);
            mesh.addCheck(60, 1, repetitions, 1);
            mesh.setDown(0, 0, true);
            mesh.pass(60);
            due.is(repetitions + " repetitions: failures(0)", mesh.failures(0), repetitions + 1);
            due.is(repetitions + " repetitions: vote(0, 0)", mesh.vote(0, 0), 2);
            due.is(repetitions + " repetitions: repetition(0, 0)", mesh.repetition(0, 0), 0);
        }
    }

    private static void promise3QuorumAtItsEnds() {
        for (int quorum : new int[] {1, 6}) {
            Probeweb mesh = new Probeweb();
            mesh.addCheck(1, 0, 0, quorum);
            for (int region = 0; region < quorum - 1; region++) {
                mesh.addRegion(-1);
            }
            mesh.pass(6);
            due.is("quorum " + quorum + ": verdict(0), one region fewer", mesh.verdict(0), 0);
            mesh.addRegion(-1);
            mesh.pass(6);
            due.is("quorum " + quorum + ": verdict(0), as many regions", mesh.verdict(0), 1);
            due.is("quorum " + quorum + ": setQuorum(0, 3)", mesh.setQuorum(0, 3), quorum);
        }
    }

    private static void promise6Range() {
        compareRange("setQuorum(0, quorum)", 1, 6, 2, RangesTest::setQuorum);
        Probeweb mesh = Meshes.simple(0, 1);
        int before = 1;
        for (int quorum : new int[] {6, 1, 1, 6, 6}) {
            due.is("setQuorum(0, " + quorum + ")", mesh.setQuorum(0, quorum), before);
            before = quorum;
        }
    }

    private static long setQuorum(int quorum) {
        Probeweb mesh = new Probeweb();
        mesh.addCheck(9, 7, 1, 2);
        return mesh.setQuorum(0, quorum);
    }

    private static void promise7Ranges() {
        compareRange("addWindow(0, first, 5)", 0, 100000, 0, value -> Meshes.simple(0, 1).addWindow(0, value, 5));
        compareRange("addWindow(0, 5, minutes)", 1, 10000, 0, value -> Meshes.simple(0, 1).addWindow(0, 5, value));
    }

    private static void promise7Corners() {
        int[][] ends = {{0, 100000}, {1, 10000}};
        for (int corner = 0; corner < 4; corner++) {
            int[] at = corner(ends, corner);
            due.is(window(at), Due.outcome(() -> addWindow(at)), "0");
            for (int i = 0; i < 2; i++) {
                int[] beyond = oneBeyond(at, ends, i);
                due.badArgument(window(beyond), () -> addWindow(beyond));
            }
        }
        due.badArgument("addWindow(0, -1, 0)", () -> Meshes.simple(0, 1).addWindow(0, -1, 0));
        due.badArgument("addWindow(0, 100001, 10001)", () -> Meshes.simple(0, 1).addWindow(0, 100001, 10001));
    }

    private static String window(int[] at) {
        return "addWindow(0, " + at[0] + ", " + at[1] + ")";
    }

    private static long addWindow(int[] at) {
        return Meshes.simple(0, 1).addWindow(0, at[0], at[1]);
    }

    /** Windows from minute 0 on, ended when they are over, in their last minute, and just before it. */
    private static void promise7MinutesAtTheirEnds() {
        Probeweb mesh = Meshes.simple(0, 1);
        for (int window = 0; window < 3; window++) {
            mesh.addWindow(0, 0, 10000);
        }
        mesh.addWindow(0, 0, 1);
        due.is("1 minute: endWindow(3) in 0", mesh.endWindow(3), 1);
        Meshes.passMany(mesh, 9998);
        due.is("10000 minutes: endWindow(0) in 9998", mesh.endWindow(0), 9999);
        mesh.pass(1);
        due.is("10000 minutes: endWindow(1) in 9999", mesh.endWindow(1), 10000);
        mesh.pass(1);
        due.is("10000 minutes: endWindow(2) in 10000", mesh.endWindow(2), 10000);
    }

    private static void promise9Range() {
        compareRange("pass(minutes)", 1, 200, 0, value -> Meshes.simple(2, 2).pass(value));
    }

    private static void promise9MinutesAtTheirEnds() {
        for (int minutes : new int[] {1, 2, 199, 200}) {
            Probeweb mesh = Meshes.simple(0, 0);
            mesh.pass(minutes);
            due.is("minute() after pass(" + minutes + ")", mesh.minute(), minutes);
        }
    }
}
