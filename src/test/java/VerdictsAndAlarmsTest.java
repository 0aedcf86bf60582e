/** Promises 17 to 25: the calls under "verdicts and alarms", and steps 2 to 5 of a minute. */
public final class VerdictsAndAlarmsTest {
    private static final Due due = new Due();

    public static void main(String[] args) {
        promise17IsBad();
        promise17MoreThanHalf();
        promise17Unknown();
        promise18Verdict();
        promise18Quorums();
        promise18BadRegions();
        promise19Trusted();
        promise19AsTheyAreNow();
        promise20Alarms();
        promise21HasAlarm();
        promise22AlarmCheck();
        promise23AlarmRaised();
        promise24AlarmClosed();
        promise25Availability();
        promise25Share();
        due.end();
    }

    private static void promise17IsBad() {
        Probeweb mesh = Meshes.simple(1, 1);
        mesh.setDown(0, 0, true);
        mesh.pass(5);
        due.is("isBad(0): one vote is too few", mesh.isBad(0), false);
        mesh.addCheck(1, 0, 0, 1);
        mesh.setDown(1, 0, true);
        due.is("isBad(0): not yet", mesh.isBad(0), false);
        mesh.pass(1);
        due.is("isBad(0): 2 of 2 down", mesh.isBad(0), true);
        mesh.setDown(1, 0, false);
        due.is("isBad(0): till the next minute", mesh.isBad(0), true);
        mesh.pass(1);
        due.is("isBad(0): 1 of 2 down is not more than half", mesh.isBad(0), false);

        Probeweb early = Meshes.simple(0, 2);
        early.setDown(0, early.addRegion(-1), true);
        early.setDown(1, 0, true);
        early.setCut(0, true);
        due.is("isBad(0): before the first minute with it", early.isBad(0), false);
        early.pass(1);
        due.is("isBad(0): after it", early.isBad(0), true);
        early.addRegion(0);
        due.is("isBad(1): before the first minute with it", early.isBad(1), false);
    }

    private static void promise17MoreThanHalf() {
        for (int checks = 2; checks <= 8; checks++) {
            Probeweb mesh = Meshes.simple(2, checks);
            mesh.pass(2);
            for (int down = 1; down <= checks; down++) {
                mesh.setDown(checks - down, 1, true);
                mesh.pass(1);
                String where = down + " of " + checks + " votes down";
                due.is("isBad(1): " + where, mesh.isBad(1), 2 * down > checks);
                due.is("isBad(0): none of its own down", mesh.isBad(0), false);
            }
        }
    }

    private static void promise17Unknown() {
        Probeweb mesh = new Probeweb();
        mesh.addRegion(-1);
        mesh.addCheck(1, 0, 0, 1);
        mesh.addCheck(1, 4, 0, 1);
        mesh.addCheck(1, 9, 0, 1);
        mesh.addCheck(1, 1000, 0, 1);
        mesh.setCut(0, true);
        mesh.pass(3);
        due.is("isBad(0): 1 of 1 down, 3 unknown", mesh.isBad(0), false);
        mesh.pass(1);
        due.is("isBad(0): 2 of 2 down, 2 unknown", mesh.isBad(0), true);
        mesh.setCut(0, false);
        mesh.setDown(0, 0, true);
        mesh.setDown(2, 0, true);
        mesh.pass(1);
        due.is("isBad(0): 1 of 2 down, 2 unknown", mesh.isBad(0), false);
        mesh.pass(4);
        due.is("isBad(0): 2 of 3 down, 1 unknown", mesh.isBad(0), true);
    }

    private static void promise18Verdict() {
        Probeweb mesh = Meshes.simple(1, 1);
        due.is("verdict(0) in 0", mesh.verdict(0), 0);
        mesh.pass(1);
        due.is("verdict(0) in 1", mesh.verdict(0), 1);
        mesh.setDown(0, 0, true);
        due.is("verdict(0): not without a minute", mesh.verdict(0), 1);
        mesh.pass(1);
        due.is("verdict(0) in 2", mesh.verdict(0), 2);
        mesh.addCheck(1, 0, 0, 1);
        due.is("verdict(1): just added", mesh.verdict(1), 0);
        mesh.addRegion(-1);
        mesh.pass(1);
        due.is("verdict(1): a minute later", mesh.verdict(1), 1);

        Probeweb empty = Meshes.simple(0, 1);
        empty.pass(3);
        due.is("verdict(0), no region", empty.verdict(0), 0);
    }

    /** Each quorum against each number of votes, and of votes that are down. */
    private static void promise18Quorums() {
        for (int quorum = 1; quorum <= 6; quorum++) {
            Probeweb mesh = new Probeweb();
            mesh.addCheck(1, 0, 0, quorum);
            for (int regions = 1; regions <= 6; regions++) {
                mesh.addRegion(-1);
                mesh.pass(7);
                for (int down = 1; down <= regions; down++) {
                    mesh.setDown(0, down - 1, true);
                    mesh.pass(1);
                    int verdict = regions < quorum ? 0 : down >= quorum ? 2 : 1;
                    String where = down + " of " + regions + " down, quorum " + quorum;
                    due.is("verdict(0): " + where, mesh.verdict(0), verdict);
                }
                for (int region = 0; region < regions; region++) {
                    mesh.setDown(0, region, false);
                }
                mesh.pass(1);
                due.is("verdict(0): none of " + regions + " down", mesh.verdict(0), regions < quorum ? 0 : 1);
            }
        }
    }

    /** One region that is cut off from the others wakes nobody. */
    private static void promise18BadRegions() {
        Probeweb mesh = Meshes.simple(3, 2);
        mesh.pass(3);
        mesh.setCut(2, true);
        due.is("pass(1), 2 cut off", mesh.pass(1), 0);
        due.is("vote(0, 2)", mesh.vote(0, 2), 2);
        due.is("verdict(0): 2 is bad in the same minute", mesh.verdict(0), 1);
        mesh.setQuorum(0, 3);
        mesh.pass(1);
        due.is("verdict(0): 2 trusted, quorum 3", mesh.verdict(0), 0);
        due.is("verdict(1): 2 trusted, quorum 1", mesh.verdict(1), 1);

        Probeweb below = new Probeweb();
        below.addRegion(-1);
        below.addRegion(0);
        below.addCheck(1, 0, 0, 1);
        below.addCheck(1, 0, 0, 1);
        below.addCheck(1, 0, 0, 1);
        below.setDown(0, 0, true);
        below.setDown(1, 0, true);
        below.setDown(0, 1, true);
        below.pass(2);
        due.is("isBad(0): 2 of 3 down", below.isBad(0), true);
        due.is("isBad(1): 1 of 3 down", below.isBad(1), false);
        due.is("verdict(0): 1 is under a bad one", below.verdict(0), 0);
        due.is("alarms()", below.alarms(), 0);
    }

    private static void promise19Trusted() {
        Probeweb mesh = new Probeweb();
        mesh.addCheck(1, 0, 0, 6);
        mesh.addCheck(1, 0, 0, 6);
        due.is("trusted(0), no region", mesh.trusted(0), 0);
        mesh.addRegion(-1);
        mesh.addRegion(0);
        mesh.addRegion(1);
        mesh.addRegion(0);
        mesh.addRegion(-1);
        due.is("trusted(0): all unknown", mesh.trusted(0), 0);
        mesh.pass(3);
        due.is("trusted(0) in 3: 4 is unknown", mesh.trusted(0), 0b01111);
        mesh.pass(1);
        due.is("trusted(0) in 4", mesh.trusted(0), 0b11111);
        mesh.setDown(0, 1, true);
        mesh.pass(1);
        due.is("trusted(0): a down vote is trusted", mesh.trusted(0), 0b11111);
        mesh.setDown(1, 1, true);
        mesh.pass(1);
        due.is("trusted(0): 1 is bad, 2 is under it", mesh.trusted(0), 0b11001);
        due.is("trusted(1): the same", mesh.trusted(1), 0b11001);
        mesh.setDown(0, 1, false);
        mesh.setDown(0, 3, true);
        mesh.setDown(1, 3, true);
        mesh.pass(1);
        due.is("trusted(0): 3 is bad, not 0 above it", mesh.trusted(0), 0b10111);
        mesh.setDown(0, 0, true);
        mesh.setDown(1, 0, true);
        mesh.pass(1);
        due.is("trusted(0): 0 is bad, over 1, 2 and 3", mesh.trusted(0), 0b10000);
    }

    private static void promise19AsTheyAreNow() {
        Probeweb mesh = Meshes.simple(2, 2);
        mesh.pass(2);
        mesh.setCut(0, true);
        due.is("trusted(0): 0 is cut, and not bad yet", mesh.trusted(0), 0b11);
        mesh.pass(1);
        due.is("trusted(0): 0 is bad", mesh.trusted(0), 0b10);
        mesh.addCheck(1, 0, 0, 1);
        due.is("trusted(2): just added", mesh.trusted(2), 0);
        mesh.addRegion(-1);
        due.is("trusted(0): 2 just added", mesh.trusted(0), 0b10);
        mesh.setCut(0, false);
        due.is("trusted(0): 0 is still bad", mesh.trusted(0), 0b10);
        mesh.setQuorum(0, 6);
        mesh.pass(1);
        due.is("trusted(0): the quorum does not matter", mesh.trusted(0), 0b111);
    }

    private static void promise20Alarms() {
        Probeweb mesh = Meshes.simple(4, 3);
        mesh.pass(4);
        due.is("alarms(), none down", mesh.alarms(), 0);
        mesh.setDown(0, 0, true);
        due.is("pass(1)", mesh.pass(1), 1);
        due.is("alarms()", mesh.alarms(), 1);
        due.is("pass(50): it is open", mesh.pass(50), 0);
        mesh.setDown(0, 0, false);
        due.is("pass(10): it is closed", mesh.pass(10), 0);
        due.is("alarms(): closed ones too", mesh.alarms(), 1);
        mesh.setDown(0, 0, true);
        mesh.setDown(1, 1, true);
        mesh.setDown(2, 2, true);
        due.is("pass(1): all three", mesh.pass(1), 3);
        due.is("alarms()", mesh.alarms(), 4);
    }

    private static void promise21HasAlarm() {
        Probeweb mesh = Meshes.simple(2, 2);
        due.is("hasAlarm(0) in 0", mesh.hasAlarm(0), false);
        mesh.setDown(0, 0, true);
        mesh.pass(2);
        due.is("hasAlarm(0), down", mesh.hasAlarm(0), true);
        due.is("hasAlarm(1), another check", mesh.hasAlarm(1), false);
        mesh.setQuorum(0, 6);
        mesh.pass(3);
        due.is("verdict(0), quorum 6", mesh.verdict(0), 0);
        due.is("hasAlarm(0): unknown closes none", mesh.hasAlarm(0), true);
        mesh.setQuorum(0, 1);
        due.is("pass(3), down again", mesh.pass(3), 0);
        due.is("hasAlarm(0): the same one", mesh.hasAlarm(0), true);
        mesh.setDown(0, 0, false);
        due.is("hasAlarm(0): till the next minute", mesh.hasAlarm(0), true);
        mesh.pass(1);
        due.is("hasAlarm(0), up", mesh.hasAlarm(0), false);
        mesh.addWindow(0, 9, 2);
        mesh.setDown(0, 0, true);
        mesh.pass(1);
        due.is("minute()", mesh.minute(), 10);
        due.is("hasAlarm(0), in a window", mesh.hasAlarm(0), false);
        mesh.pass(1);
        due.is("hasAlarm(0), after the window", mesh.hasAlarm(0), true);
    }

    private static void promise22AlarmCheck() {
        Probeweb mesh = alarmsOfThreeChecks();
        int[] checks = {1, 0, 2, 1};
        for (int alarm = 0; alarm < checks.length; alarm++) {
            due.is("alarmCheck(" + alarm + ")", mesh.alarmCheck(alarm), checks[alarm]);
        }
    }

    private static void promise23AlarmRaised() {
        Probeweb mesh = alarmsOfThreeChecks();
        int[] minutes = {5, 7, 7, 10};
        for (int alarm = 0; alarm < minutes.length; alarm++) {
            due.is("alarmRaised(" + alarm + ")", mesh.alarmRaised(alarm), minutes[alarm]);
        }
    }

    private static void promise24AlarmClosed() {
        Probeweb mesh = alarmsOfThreeChecks();
        int[] minutes = {9, 11, -1, -1};
        for (int alarm = 0; alarm < minutes.length; alarm++) {
            due.is("alarmClosed(" + alarm + ")", mesh.alarmClosed(alarm), minutes[alarm]);
        }
        mesh.pass(100);
        due.is("alarmClosed(0): once for all", mesh.alarmClosed(0), 9);
        due.is("alarmClosed(3): open", mesh.alarmClosed(3), -1);
        mesh.setDown(1, 1, false);
        mesh.pass(1);
        due.is("alarmClosed(3)", mesh.alarmClosed(3), 112);
        due.is("alarmClosed(2): another check", mesh.alarmClosed(2), -1);
    }

    /** Alarms of check 1 from 5 to 9, 0 from 7 to 11, 2 from 7 and 1 from 10; in minute 11 at the end. */
    private static Probeweb alarmsOfThreeChecks() {
        Probeweb mesh = Meshes.simple(4, 3);
        mesh.pass(4);
        mesh.setDown(1, 1, true);
        mesh.pass(2);
        mesh.setDown(2, 2, true);
        mesh.setDown(0, 0, true);
        mesh.pass(2);
        mesh.setDown(1, 1, false);
        mesh.pass(1);
        mesh.setDown(1, 1, true);
        mesh.pass(1);
        mesh.setDown(0, 0, false);
        mesh.pass(1);
        return mesh;
    }

    private static void promise25Availability() {
        Probeweb mesh = Meshes.simple(1, 2);
        due.badState("availability(0) in 0", () -> (long) mesh.availability(0));
        mesh.setQuorum(1, 2);
        mesh.pass(3);
        due.is("availability(0): 3 of 3", mesh.availability(0), 1.0f);
        due.badState("availability(1): unknown is not counted", () -> (long) mesh.availability(1));
        due.noIndex("availability(2)", () -> (long) mesh.availability(2));
        mesh.setDown(0, 0, true);
        due.is("availability(0): as the last minute left it", mesh.availability(0), 1.0f);
        mesh.pass(1);
        due.is("availability(0): 3 of 4", mesh.availability(0), 0.75f);
        mesh.setQuorum(0, 2);
        mesh.pass(10);
        due.is("availability(0): unknown ones left out", mesh.availability(0), 0.75f);
        mesh.setQuorum(0, 1);
        mesh.pass(2);
        due.is("availability(0): 3 of 6", mesh.availability(0), 0.5f);
        mesh.setQuorum(1, 1);
        mesh.setDown(1, 0, true);
        mesh.setDown(0, 0, false);
        mesh.pass(1);
        due.is("availability(0): 4 of 7, the nearest float", mesh.availability(0), 4.0f / 7.0f);
        due.is("availability(1): 0 of 1", mesh.availability(1), 0.0f);
        mesh.addCheck(1, 0, 0, 1);
        due.badState("availability(2), just added", () -> (long) mesh.availability(2));
    }

    private static void promise25Share() {
        Probeweb mesh = Meshes.simple(1, 1);
        int up = 0;
        int counted = 0;
        for (int call = 1; call <= 120; call++) {
            boolean isDown = call % 3 == 0;
            mesh.setDown(0, 0, isDown);
            mesh.pass(call);
            up += isDown ? 0 : call;
            counted += call;
            due.is("availability(0): " + up + " of " + counted, mesh.availability(0), (float) up / (float) counted);
        }
    }
}
