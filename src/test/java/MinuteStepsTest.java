/** The steps of a minute at their edges: where a multiple, a remainder, a half or a quorum is just reached. */
public final class MinuteStepsTest {
    private static final Due due = new Due();

    public static void main(String[] args) {
        step1NothingBelowZero();
        step1Multiples();
        step1NothingInMinuteZero();
        step1Remainders();
        step1RepetitionInPlaceOfSchedule();
        step1NextMinuteAndFourLater();
        step1ScheduleAfterRepetitions();
        step1DownAlready();
        step1WorldSetInBetween();
        step2AtLeastTwo();
        step2ExactlyHalf();
        step3FewerThanTheQuorum();
        step3AsManyAsTheQuorum();
        step4NoOpenAlarm();
        step4CloseAndRaiseInOneMinute();
        step5JustCounted();
        due.end();
    }

    /** Minutes 5, 10 and 15 lie multiples of the interval before minute 20, and are not probed in. */
    private static void step1NothingBelowZero() {
        Probeweb mesh = Meshes.simple(6, 0);
        mesh.addCheck(5, 17, 0, 1);
        for (int minute = 0; minute < 20; minute++) {
            due.is("nextProbe(0, 3) in " + minute, mesh.nextProbe(0, 3), 20);
            due.is("probes(3) in " + minute, mesh.probes(3), 0);
            due.is("vote(0, 3) in " + minute, mesh.vote(0, 3), 0);
            mesh.pass(1);
        }
        due.is("vote(0, 3) in 20", mesh.vote(0, 3), 1);
        due.is("probes(3) in 20", mesh.probes(3), 1);
        due.is("nextProbe(0, 3) in 20", mesh.nextProbe(0, 3), 25);
    }

    /** From just before the first probe on: one minute before a multiple, at it, and one after it. */
    private static void step1Multiples() {
        for (int interval : new int[] {1, 2, 3, 4, 59, 60}) {
            for (int offset : new int[] {1, 2, 60, 999, 1000}) {
                for (int region = 0; region < 6; region++) {
                    compareMultiples(interval, offset, region);
                }
            }
        }
    }

    private static void compareMultiples(int interval, int offset, int region) {
        String of = " of interval " + interval + ", offset " + offset + ", region " + region;
        Probeweb mesh = Meshes.simple(6, 0);
        mesh.addCheck(interval, offset, 0, 1);
        int probe = offset + region;
        Meshes.passMany(mesh, probe - 1);
        for (int made = 0; made < 4; made++) {
            due.is("probes ahead of " + probe + of, mesh.probes(region), made);
            due.is("nextProbe ahead of " + probe + of, mesh.nextProbe(0, region), probe);
            mesh.pass(1);
            due.is("probes in " + probe + of, mesh.probes(region), made + 1);
            due.is("nextProbe in " + probe + of, mesh.nextProbe(0, region), probe + interval);
            if (interval > 1) {
                mesh.pass(1);
                due.is("probes just after " + probe + of, mesh.probes(region), made + 1);
                due.is("nextProbe just after " + probe + of, mesh.nextProbe(0, region), probe + interval);
            }
            if (interval > 2) {
                mesh.pass(interval - 2);
            }
            probe += interval;
        }
    }

    /** Offset 0 and region 0: minute 0 is a multiple, but the first probe is an interval later. */
    private static void step1NothingInMinuteZero() {
        for (int interval : new int[] {1, 2, 60}) {
            Probeweb mesh = Meshes.simple(1, 0);
            mesh.addCheck(interval, 0, 0, 1);
            due.is("probes(0) in 0, interval " + interval, mesh.probes(0), 0);
            due.is("vote(0, 0) in 0, interval " + interval, mesh.vote(0, 0), 0);
            due.is("nextProbe(0, 0) in 0, interval " + interval, mesh.nextProbe(0, 0), interval);
            mesh.pass(interval);
            due.is("probes(0) in " + interval, mesh.probes(0), 1);
        }
    }

    /**
     * The remainders of 3 * check + 5 * region + 7 * k by 4: a row for each check, in it a group
     * for each region, in that a digit for each of k = 1, 2 and 3.
     */
    private static void step1Remainders() {
        String[] remainders = {
            "321 032 103 210 321 032",
            "210 321 032 103 210 321",
            "103 210 321 032 103 210",
            "032 103 210 321 032 103",
            "321 032 103 210 321 032",
            "210 321 032 103 210 321",
            "103 210 321 032 103 210",
            "032 103 210 321 032 103",
        };
        for (int check = 0; check < 8; check++) {
            String[] groups = remainders[check].split(" ");
            for (int region = 0; region < 6; region++) {
                compareWaits(check, region, groups[region]);
            }
        }
    }

    private static void compareWaits(int check, int region, String remainders) {
        Probeweb mesh = Meshes.simple(6, 0);
        for (int added = 0; added <= check; added++) {
            mesh.addCheck(60, 1, 3, 1);
        }
        mesh.setDown(check, region, true);
        mesh.pass(1 + region);
        for (int k = 1; k <= 3; k++) {
            String of = "(" + check + ", " + region + "), k = " + k;
            int wait = 1 + (remainders.charAt(k - 1) - '0');
            due.is("repetition" + of, mesh.repetition(check, region), k);
            due.is("nextProbe" + of + ", minutes from now", mesh.nextProbe(check, region) - mesh.minute(), wait);
            due.is("vote" + of, mesh.vote(check, region), 0);
            due.is("failures" + of, mesh.failures(region), k);
            mesh.pass(wait);
        }
        String of = "(" + check + ", " + region + ") after the last";
        due.is("repetition" + of, mesh.repetition(check, region), 0);
        due.is("vote" + of, mesh.vote(check, region), 2);
        due.is("failures" + of, mesh.failures(region), 4);
    }

    /** With interval 1 each repetition falls on a minute of the schedule: one probe, and the next k. */
    private static void step1RepetitionInPlaceOfSchedule() {
        Probeweb mesh = Meshes.simple(1, 0);
        mesh.addCheck(1, 0, 2, 1);
        mesh.setDown(0, 0, true);
        int[][] minuteProbesRepetitionVote = {{1, 1, 1, 0}, {4, 1, 1, 0}, {5, 2, 2, 0}, {7, 2, 2, 0}, {8, 3, 0, 2},
            {9, 4, 0, 2}};
        for (int[] asked : minuteProbesRepetitionVote) {
            mesh.pass(asked[0] - mesh.minute());
            due.is("probes(0) in " + asked[0], mesh.probes(0), asked[1]);
            due.is("repetition(0, 0) in " + asked[0], mesh.repetition(0, 0), asked[2]);
            due.is("vote(0, 0) in " + asked[0], mesh.vote(0, 0), asked[3]);
        }
    }

    /** A remainder of 0 plans for the very next minute, one of 3 for the fourth. */
    private static void step1NextMinuteAndFourLater() {
        Probeweb mesh = Meshes.simple(2, 0);
        mesh.addCheck(30, 10, 1, 1);
        mesh.setDown(0, 0, true);
        mesh.setDown(0, 1, true);
        mesh.pass(10);
        due.is("nextProbe(0, 0): remainder 3", mesh.nextProbe(0, 0), 14);
        mesh.pass(1);
        due.is("nextProbe(0, 1): remainder 0", mesh.nextProbe(0, 1), 12);
        mesh.pass(1);
        due.is("vote(0, 1) in 12", mesh.vote(0, 1), 2);
        mesh.pass(1);
        due.is("vote(0, 0) in 13", mesh.vote(0, 0), 0);
        mesh.pass(1);
        due.is("vote(0, 0) in 14", mesh.vote(0, 0), 2);
    }

    /** Repetitions, made from 8 on, do not shift the schedule 4, 8, 12, .. of the check. */
    private static void step1ScheduleAfterRepetitions() {
        Probeweb mesh = Meshes.simple(1, 0);
        mesh.addCheck(4, 0, 3, 1);
        mesh.pass(4);
        mesh.setDown(0, 0, true);
        mesh.pass(4);
        due.is("nextProbe(0, 0) in 8: repetition 1", mesh.nextProbe(0, 0), 12);
        mesh.pass(4);
        due.is("repetition(0, 0) in 12, also of the schedule", mesh.repetition(0, 0), 2);
        due.is("nextProbe(0, 0) in 12: repetition 2", mesh.nextProbe(0, 0), 15);
        mesh.setDown(0, 0, false);
        mesh.pass(3);
        due.is("repetition(0, 0) in 15, succeeded", mesh.repetition(0, 0), 0);
        due.is("vote(0, 0) in 15, succeeded", mesh.vote(0, 0), 1);
        due.is("nextProbe(0, 0) in 15: the schedule", mesh.nextProbe(0, 0), 16);
        due.is("probes(0) in 15", mesh.probes(0), 4);
        mesh.setDown(0, 0, true);
        mesh.pass(1);
        due.is("repetition(0, 0) in 16: 1 again", mesh.repetition(0, 0), 1);
        due.is("nextProbe(0, 0) in 16: passes over 20", mesh.nextProbe(0, 0), 20);
    }

    private static void step1DownAlready() {
        Probeweb mesh = Meshes.simple(1, 0);
        mesh.addCheck(10, 0, 1, 1);
        mesh.setDown(0, 0, true);
        mesh.pass(14);
        due.is("vote(0, 0) in 14", mesh.vote(0, 0), 2);
        for (int minute = 20; minute <= 50; minute += 10) {
            due.is("nextProbe(0, 0) ahead of " + minute, mesh.nextProbe(0, 0), minute);
            mesh.pass(minute - mesh.minute());
            due.is("repetition(0, 0), down already in " + minute, mesh.repetition(0, 0), 0);
            due.is("vote(0, 0), down already in " + minute, mesh.vote(0, 0), 2);
        }
        due.is("probes(0) in 50: 10, 14, 20, 30, 40, 50", mesh.probes(0), 6);
        due.is("failures(0) in 50", mesh.failures(0), 6);
    }

    /** What is set counts in the minute of the probe: between two of them it may come and go. */
    private static void step1WorldSetInBetween() {
        Probeweb mesh = Meshes.simple(1, 0);
        mesh.addCheck(10, 0, 0, 1);
        mesh.pass(10);
        mesh.setDown(0, 0, true);
        mesh.setCut(0, true);
        mesh.pass(9);
        due.is("failures(0) in 19", mesh.failures(0), 0);
        mesh.setDown(0, 0, false);
        mesh.setCut(0, false);
        mesh.pass(1);
        due.is("vote(0, 0) in 20", mesh.vote(0, 0), 1);
        due.is("failures(0) in 20", mesh.failures(0), 0);
    }

    private static void step2AtLeastTwo() {
        for (int checks = 0; checks <= 3; checks++) {
            Probeweb mesh = Meshes.simple(1, checks);
            mesh.setCut(0, true);
            mesh.pass(1);
            due.is("isBad(0), " + checks + " votes, all down", mesh.isBad(0), checks >= 2);
        }
    }

    /** Of 2, 4, 6 and 8 votes: one fewer than half, half, one more, and back to half. */
    private static void step2ExactlyHalf() {
        for (int checks = 2; checks <= 8; checks += 2) {
            Probeweb mesh = Meshes.simple(1, checks);
            for (int check = 0; check < checks / 2 - 1; check++) {
                mesh.setDown(check, 0, true);
            }
            mesh.pass(1);
            due.is("isBad(0), one fewer than half of " + checks, mesh.isBad(0), false);
            mesh.setDown(checks / 2 - 1, 0, true);
            mesh.pass(1);
            due.is("isBad(0), half of " + checks, mesh.isBad(0), false);
            mesh.setDown(checks / 2, 0, true);
            mesh.pass(1);
            due.is("isBad(0), one more than half of " + checks, mesh.isBad(0), true);
            mesh.setDown(0, 0, false);
            mesh.pass(1);
            due.is("isBad(0), half of " + checks + " again", mesh.isBad(0), false);
        }
    }

    /** Regions become trusted, or are no longer, one by one. */
    private static void step3FewerThanTheQuorum() {
        Probeweb mesh = Meshes.simple(6, 3);
        mesh.setQuorum(0, 4);
        mesh.pass(2);
        due.is("trusted(0) in 2", mesh.trusted(0), 0b000111);
        due.is("verdict(0): 3 of 4", mesh.verdict(0), 0);
        mesh.pass(1);
        due.is("verdict(0): 4 of 4", mesh.verdict(0), 1);
        mesh.setCut(0, true);
        mesh.pass(1);
        due.is("trusted(0), 0 cut, 4 just probed", mesh.trusted(0), 0b011110);
        due.is("verdict(0): 4 of 4 again", mesh.verdict(0), 1);
        mesh.setCut(1, true);
        mesh.pass(1);
        due.is("trusted(0), 0 and 1 cut, 5 just probed", mesh.trusted(0), 0b111100);
        mesh.setCut(2, true);
        mesh.pass(1);
        due.is("verdict(0): 3 of 4, three bad", mesh.verdict(0), 0);
    }

    /** Region 2 is bad: its down votes count neither among the trusted nor among those that are down. */
    private static void step3AsManyAsTheQuorum() {
        Probeweb mesh = Meshes.simple(3, 3);
        mesh.setQuorum(0, 2);
        mesh.setDown(0, 2, true);
        mesh.setDown(1, 2, true);
        mesh.setDown(0, 1, true);
        mesh.pass(3);
        due.is("trusted(0), 2 bad", mesh.trusted(0), 0b011);
        due.is("verdict(0): 1 trusted down, quorum 2", mesh.verdict(0), 1);
        mesh.setDown(0, 0, true);
        mesh.pass(1);
        due.is("verdict(0): 2 trusted down, quorum 2", mesh.verdict(0), 2);
        mesh.setDown(0, 0, false);
        mesh.setQuorum(0, 1);
        mesh.pass(1);
        due.is("verdict(0): 1 trusted down, quorum 1", mesh.verdict(0), 2);
        mesh.setDown(0, 1, false);
        mesh.pass(1);
        due.is("verdict(0): the bad one alone down, quorum 1", mesh.verdict(0), 1);
    }

    private static void step4NoOpenAlarm() {
        Probeweb mesh = Meshes.simple(1, 1);
        mesh.setDown(0, 0, true);
        due.is("pass(1): raised in 1", mesh.pass(1), 1);
        due.is("pass(200): open already", mesh.pass(200), 0);
        mesh.setDown(0, 0, false);
        due.is("pass(1): closed in 202", mesh.pass(1), 0);
        due.is("alarmClosed(0)", mesh.alarmClosed(0), 202);
        mesh.setDown(0, 0, true);
        due.is("pass(1): raised in the minute after", mesh.pass(1), 1);
        due.is("alarmRaised(1)", mesh.alarmRaised(1), 203);
        due.is("alarmClosed(1)", mesh.alarmClosed(1), -1);
        due.is("alarmClosed(0), a new one open", mesh.alarmClosed(0), 202);
    }

    private static void step4CloseAndRaiseInOneMinute() {
        Probeweb mesh = Meshes.simple(3, 3);
        mesh.pass(3);
        mesh.setDown(1, 1, true);
        mesh.pass(1);
        mesh.setDown(1, 1, false);
        mesh.setDown(2, 2, true);
        mesh.setDown(0, 0, true);
        due.is("pass(1): 1 is up, 0 and 2 are down", mesh.pass(1), 2);
        due.is("alarmClosed(0)", mesh.alarmClosed(0), 5);
        due.is("alarmRaised(1)", mesh.alarmRaised(1), 5);
        due.is("alarmRaised(2)", mesh.alarmRaised(2), 5);
        due.is("alarmCheck(1)", mesh.alarmCheck(1), 0);
        due.is("alarmCheck(2)", mesh.alarmCheck(2), 2);
        due.is("hasAlarm(1)", mesh.hasAlarm(1), false);
    }

    /** The first minute that counts, as down or as up, is the one in which the verdict is first known. */
    private static void step5JustCounted() {
        for (int isDown = 0; isDown <= 1; isDown++) {
            Probeweb mesh = Meshes.simple(1, 0);
            mesh.addCheck(1, 3, 0, 1);
            mesh.setDown(0, 0, isDown == 1);
            mesh.pass(2);
            due.badState("availability(0) in 2", () -> (long) mesh.availability(0));
            mesh.pass(1);
            due.is("availability(0) in 3", mesh.availability(0), isDown == 1 ? 0.0f : 1.0f);
            mesh.setDown(0, 0, isDown == 0);
            mesh.pass(1);
            due.is("availability(0) in 4: 1 of 2", mesh.availability(0), 0.5f);
            mesh.pass(1);
            due.is("availability(0) in 5: of 3", mesh.availability(0), isDown == 1 ? 2.0f / 3.0f : 1.0f / 3.0f);
        }
    }
}
