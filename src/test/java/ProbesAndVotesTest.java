/** Promises 11 to 16: the calls under "probes and votes", and step 1 of a minute. */
public final class ProbesAndVotesTest {
    private static final Due due = new Due();

    public static void main(String[] args) {
        promise11Failing();
        promise12Schedule();
        promise12LateComers();
        promise12Planned();
        promise13Repetitions();
        promise13Waits();
        promise13OneThatSucceeds();
        promise14Vote();
        promise15Probes();
        promise16Failures();
        due.end();
    }

    private static void promise11Failing() {
        Probeweb mesh = new Probeweb();
        mesh.addCheck(1, 0, 0, 1);
        mesh.addCheck(60, 1000, 0, 1);
        due.is("failing(0), no region", mesh.failing(0), 0);
        mesh.addRegion(-1);
        mesh.addRegion(0);
        mesh.addRegion(1);
        mesh.addRegion(0);
        mesh.addRegion(-1);
        mesh.addRegion(4);
        due.is("failing(0)", mesh.failing(0), 0);
        mesh.setDown(0, 5, true);
        due.is("failing(0), down for 5", mesh.failing(0), 0b100000);
        mesh.setCut(1, true);
        due.is("failing(0), 1 cut over 2", mesh.failing(0), 0b100110);
        due.is("failing(1), 1 cut over 2", mesh.failing(1), 0b000110);
        mesh.setDown(0, 1, true);
        due.is("failing(0), 1 down and cut", mesh.failing(0), 0b100110);
        mesh.setCut(0, true);
        due.is("failing(1), 0 cut over 1, 2, 3", mesh.failing(1), 0b001111);
        mesh.setCut(0, false);
        mesh.setCut(1, false);
        due.is("failing(0), now and not at the last probe", mesh.failing(0), 0b100010);
    }

    private static void promise12Schedule() {
        Probeweb mesh = new Probeweb();
        mesh.addRegion(-1);
        mesh.addRegion(-1);
        mesh.addRegion(-1);
        mesh.addCheck(5, 0, 3, 1);
        mesh.addCheck(1, 0, 0, 1);
        mesh.addCheck(60, 1000, 0, 1);
        due.is("nextProbe(0, 0) in 0: later than this one", mesh.nextProbe(0, 0), 5);
        due.is("nextProbe(0, 1) in 0", mesh.nextProbe(0, 1), 1);
        due.is("nextProbe(0, 2) in 0", mesh.nextProbe(0, 2), 2);
        due.is("nextProbe(1, 0) in 0", mesh.nextProbe(1, 0), 1);
        due.is("nextProbe(1, 2) in 0", mesh.nextProbe(1, 2), 2);
        due.is("nextProbe(2, 2) in 0", mesh.nextProbe(2, 2), 1002);
        mesh.pass(1);
        due.is("nextProbe(0, 1) in 1", mesh.nextProbe(0, 1), 6);
        due.is("nextProbe(1, 0) in 1", mesh.nextProbe(1, 0), 2);
        due.is("probes(0): nothing is probed in minute 0", mesh.probes(0), 1);
        mesh.pass(3);
        due.is("nextProbe(0, 0) in 4", mesh.nextProbe(0, 0), 5);
        mesh.pass(1);
        due.is("nextProbe(0, 0) in 5", mesh.nextProbe(0, 0), 10);
        for (int call = 0; call < 5; call++) {
            mesh.pass(199);
        }
        due.is("nextProbe(2, 0) in 1000", mesh.nextProbe(2, 0), 1060);
        due.is("nextProbe(2, 1) in 1000", mesh.nextProbe(2, 1), 1001);
        due.is("vote(2, 0) in 1000", mesh.vote(2, 0), 1);
        due.is("vote(2, 1) in 1000", mesh.vote(2, 1), 0);
    }

    private static void promise12LateComers() {
        Probeweb mesh = new Probeweb();
        mesh.pass(10);
        mesh.addCheck(10, 0, 0, 1);
        mesh.addCheck(10, 8, 0, 1);
        mesh.addCheck(10, 15, 0, 1);
        for (int region = 0; region < 4; region++) {
            mesh.addRegion(-1);
        }
        due.is("nextProbe(0, 0), added in 10", mesh.nextProbe(0, 0), 20);
        due.is("nextProbe(0, 1), added in 10", mesh.nextProbe(0, 1), 11);
        due.is("nextProbe(1, 2), added in 10", mesh.nextProbe(1, 2), 20);
        due.is("nextProbe(1, 3), added in 10", mesh.nextProbe(1, 3), 11);
        due.is("nextProbe(2, 3), added in 10", mesh.nextProbe(2, 3), 18);
        mesh.pass(1);
        due.is("vote(0, 0): the schedule of minute 10 is past", mesh.vote(0, 0), 0);
        due.is("vote(0, 1)", mesh.vote(0, 1), 1);
    }

    /** A check of each minute: while a repetition is planned, the schedule is passed over. */
    private static void promise12Planned() {
        Probeweb mesh = new Probeweb();
        mesh.addRegion(-1);
        mesh.addCheck(1, 0, 1, 1);
        mesh.setDown(0, 0, true);
        mesh.pass(1);
        due.is("repetition(0, 0) in 1", mesh.repetition(0, 0), 1);
        due.is("nextProbe(0, 0) in 1: 1 + 1 + 7 % 4", mesh.nextProbe(0, 0), 5);
        mesh.pass(3);
        due.is("nextProbe(0, 0) in 4", mesh.nextProbe(0, 0), 5);
        due.is("probes(0) in 4: none of the schedule", mesh.probes(0), 1);
        due.is("vote(0, 0) in 4", mesh.vote(0, 0), 0);
        mesh.pass(1);
        due.is("probes(0) in 5", mesh.probes(0), 2);
        due.is("vote(0, 0) in 5", mesh.vote(0, 0), 2);
        due.is("nextProbe(0, 0) in 5", mesh.nextProbe(0, 0), 6);
        mesh.pass(10);
        due.is("repetition(0, 0): none once the vote is down", mesh.repetition(0, 0), 0);
        due.is("probes(0) in 15: by the schedule again", mesh.probes(0), 12);
    }

    /** Check 0 of region 0, three repetitions: waits of 1 + 7 % 4, 1 + 14 % 4 and 1 + 21 % 4. */
    private static void promise13Repetitions() {
        Probeweb mesh = new Probeweb();
        mesh.addRegion(-1);
        mesh.addCheck(50, 2, 3, 1);
        mesh.setDown(0, 0, true);
        due.is("repetition(0, 0) at first", mesh.repetition(0, 0), 0);
        int[] minutes = {2, 6, 9, 11};
        for (int k = 0; k < 4; k++) {
            mesh.pass(minutes[k] - 1 - mesh.minute());
            due.is("repetition(0, 0) ahead of minute " + minutes[k], mesh.repetition(0, 0), k);
            due.is("nextProbe(0, 0) ahead of it", mesh.nextProbe(0, 0), minutes[k]);
            due.is("vote(0, 0) ahead of it", mesh.vote(0, 0), 0);
            mesh.pass(1);
        }
        due.is("repetition(0, 0) after the last", mesh.repetition(0, 0), 0);
        due.is("vote(0, 0) after the last", mesh.vote(0, 0), 2);
        due.is("nextProbe(0, 0) after the last", mesh.nextProbe(0, 0), 52);
        due.is("probes(0)", mesh.probes(0), 4);
        due.is("failures(0)", mesh.failures(0), 4);

        Probeweb none = new Probeweb();
        none.addRegion(-1);
        none.addCheck(50, 2, 0, 1);
        none.setDown(0, 0, true);
        none.pass(2);
        due.is("repetition(0, 0), no repetitions", none.repetition(0, 0), 0);
        due.is("vote(0, 0), no repetitions", none.vote(0, 0), 2);
    }

    /** Each check and region has waits of its own: all of them at once, followed to the down vote. */
    private static void promise13Waits() {
        for (int minute = 1; minute <= 50; minute++) {
            Probeweb mesh = Meshes.simple(6, 0);
            for (int check = 0; check < 8; check++) {
                mesh.addCheck(60, 20, check % 4, 1);
            }
            for (int region = 0; region < 6; region++) {
                mesh.setCut(region, true);
            }
            mesh.pass(minute);
            for (int check = 0; check < 8; check++) {
                for (int region = 0; region < 6; region++) {
                    comparePlan(mesh, minute, check, region);
                }
            }
        }
    }

    private static void comparePlan(Probeweb mesh, int minute, int check, int region) {
        int next = 20 + region;
        int k = 0;
        while (next <= minute && k <= check % 4) {
            k++;
            next = next + 1 + (3 * check + 5 * region + 7 * k) % 4;
        }
        boolean down = k > check % 4;
        String where = "(" + check + ", " + region + ") in " + minute;
        due.is("repetition" + where, mesh.repetition(check, region), down ? 0 : k);
        due.is("nextProbe" + where, mesh.nextProbe(check, region), down ? 80 + region : next);
        due.is("vote" + where, mesh.vote(check, region), down ? 2 : 0);
    }

    private static void promise13OneThatSucceeds() {
        Probeweb mesh = new Probeweb();
        mesh.addRegion(-1);
        mesh.addCheck(20, 1, 2, 1);
        mesh.pass(1);
        mesh.setDown(0, 0, true);
        mesh.pass(20);
        due.is("repetition(0, 0) in 21", mesh.repetition(0, 0), 1);
        due.is("vote(0, 0) in 21: up till the last repetition", mesh.vote(0, 0), 1);
        mesh.setDown(0, 0, false);
        due.is("nextProbe(0, 0): the plan stands", mesh.nextProbe(0, 0), 25);
        mesh.pass(4);
        due.is("repetition(0, 0) in 25", mesh.repetition(0, 0), 0);
        due.is("vote(0, 0) in 25", mesh.vote(0, 0), 1);
        due.is("nextProbe(0, 0) in 25", mesh.nextProbe(0, 0), 41);
        mesh.setDown(0, 0, true);
        mesh.pass(16);
        due.is("repetition(0, 0) in 41: from 1 again", mesh.repetition(0, 0), 1);
    }

    private static void promise14Vote() {
        Probeweb mesh = new Probeweb();
        mesh.addRegion(-1);
        mesh.addRegion(0);
        mesh.addCheck(1, 2, 0, 1);
        mesh.addCheck(1, 2, 1, 1);
        due.is("vote(0, 0) in 0", mesh.vote(0, 0), 0);
        mesh.pass(2);
        due.is("vote(0, 0) in 2", mesh.vote(0, 0), 1);
        due.is("vote(0, 1) in 2: not probed yet", mesh.vote(0, 1), 0);
        mesh.setDown(0, 0, true);
        due.is("vote(0, 0): not without a probe", mesh.vote(0, 0), 1);
        mesh.pass(1);
        due.is("vote(0, 0) in 3, down", mesh.vote(0, 0), 2);
        due.is("vote(0, 1) in 3, another region", mesh.vote(0, 1), 1);
        due.is("vote(1, 0) in 3, another check", mesh.vote(1, 0), 1);
        mesh.setDown(0, 0, false);
        mesh.setCut(0, true);
        mesh.pass(1);
        due.is("vote(0, 0) in 4, cut", mesh.vote(0, 0), 2);
        due.is("vote(0, 1) in 4, under a cut one", mesh.vote(0, 1), 2);
        due.is("vote(1, 0) in 4, one repetition", mesh.vote(1, 0), 1);
        mesh.setCut(0, false);
        mesh.pass(1);
        due.is("vote(0, 0) in 5, up again", mesh.vote(0, 0), 1);
        due.is("vote(0, 1) in 5, up again", mesh.vote(0, 1), 1);
    }

    private static void promise15Probes() {
        Probeweb mesh = new Probeweb();
        mesh.addRegion(-1);
        mesh.addRegion(-1);
        mesh.addCheck(3, 0, 0, 1);
        mesh.addCheck(4, 1, 2, 1);
        due.is("probes(0) in 0", mesh.probes(0), 0);
        mesh.pass(12);
        due.is("probes(0) in 12: 3, 6, 9, 12 and 1, 5, 9", mesh.probes(0), 7);
        due.is("probes(1) in 12: 1, 4, 7, 10 and 2, 6, 10", mesh.probes(1), 7);
        mesh.setDown(1, 0, true);
        mesh.pass(8);
        due.is("probes(0) in 20: 15, 18 and 13, 16, 18", mesh.probes(0), 12);
        due.is("probes(1) in 20: 13, 16, 19 and 14, 18", mesh.probes(1), 12);
        mesh.addRegion(-1);
        due.is("probes(2), just added", mesh.probes(2), 0);
    }

    private static void promise16Failures() {
        Probeweb mesh = new Probeweb();
        mesh.addRegion(-1);
        mesh.addRegion(0);
        mesh.addCheck(1, 0, 0, 1);
        mesh.addCheck(2, 0, 0, 1);
        mesh.setDown(0, 1, true);
        mesh.pass(6);
        due.is("failures(0)", mesh.failures(0), 0);
        due.is("failures(1): down votes go on failing", mesh.failures(1), 6);
        due.is("probes(1)", mesh.probes(1), 9);
        mesh.setCut(0, true);
        mesh.pass(2);
        due.is("failures(0), cut: 7, 8 and 8", mesh.failures(0), 3);
        due.is("failures(1), under it: 7, 8 and 7", mesh.failures(1), 9);
        mesh.setCut(0, false);
        mesh.setDown(0, 1, false);
        mesh.pass(10);
        due.is("failures(0), none more", mesh.failures(0), 3);
        due.is("failures(1), none more", mesh.failures(1), 9);
    }
}
