/** A mesh with as many regions, checks or windows as there can be: the last of them works as the first. */
public final class FullMeshTest {
    private static final Due due = new Due();

    public static void main(String[] args) {
        promise2SixRegions();
        promise2SixthOfAChain();
        promise3EightChecks();
        promise3LastPair();
        promise4EachPairOfItsOwn();
        promise5EachRegionOfItsOwn();
        promise7TwelveWindows();
        promise7TwelfthWindow();
        promise11AllFail();
        promise17AllBad();
        promise18QuorumOfSix();
        promise20EightAlarmsAtOnce();
        due.end();
    }

    /** Five make no full mesh, six do, and refused ones leave it so. */
    private static void promise2SixRegions() {
        Probeweb mesh = Meshes.simple(5, 1);
        due.is("addRegion(4), 5 regions", mesh.addRegion(4), 5);
        for (int times = 0; times < 3; times++) {
            due.badState("addRegion(-1), 6 regions", () -> mesh.addRegion(-1));
        }
        mesh.pass(6);
        due.badState("addRegion(0), 6 regions, 6 minutes later", () -> mesh.addRegion(0));
        due.is("trusted(0), 6 regions", mesh.trusted(0), 0b111111);
        due.noIndex("probes(6), 6 regions", () -> mesh.probes(6));
    }

    /** The longest path: what is cut or bad at its head reaches its end, and not the other way. */
    private static void promise2SixthOfAChain() {
        int[] below = {0b111111, 0b111110, 0b111100, 0b111000, 0b110000, 0b100000};
        for (int cut = 0; cut < 6; cut++) {
            Probeweb mesh = Meshes.chain(1);
            mesh.setCut(cut, true);
            due.is("failing(0), " + cut + " of a chain cut", mesh.failing(0), below[cut]);
        }
        for (int bad = 0; bad < 6; bad++) {
            Probeweb mesh = Meshes.chain(2);
            mesh.setDown(0, bad, true);
            mesh.setDown(1, bad, true);
            mesh.pass(6);
            due.is("trusted(0), " + bad + " of a chain bad", mesh.trusted(0), 0b111111 - below[bad]);
            due.is("isBad(5), " + bad + " of a chain bad", mesh.isBad(5), bad == 5);
        }
    }

    private static void promise3EightChecks() {
        Probeweb mesh = Meshes.simple(1, 7);
        due.is("addCheck(60, 1000, 3, 6), 7 checks", mesh.addCheck(60, 1000, 3, 6), 7);
        for (int times = 0; times < 3; times++) {
            due.badState("addCheck(1, 0, 0, 1), 8 checks", () -> mesh.addCheck(1, 0, 0, 1));
        }
        mesh.pass(200);
        due.badState("addCheck(1, 0, 0, 1), 8 checks, 200 minutes later", () -> mesh.addCheck(1, 0, 0, 1));
        due.noIndex("verdict(8), 8 checks", () -> mesh.verdict(8));
    }

    /** Region 5 of check 7, with the waits 3 * 7 + 5 * 5 + 7 * k over 4: of 1, 0 and 3 more minutes. */
    private static void promise3LastPair() {
        Probeweb mesh = Meshes.simple(6, 7);
        mesh.addCheck(60, 30, 3, 1);
        mesh.setDown(7, 5, true);
        int[] minutes = {35, 37, 38, 42};
        for (int k = 0; k < 4; k++) {
            due.is("repetition(7, 5) ahead of " + minutes[k], mesh.repetition(7, 5), k);
            due.is("nextProbe(7, 5) ahead of " + minutes[k], mesh.nextProbe(7, 5), minutes[k]);
            mesh.pass(minutes[k] - mesh.minute());
        }
        due.is("vote(7, 5) in 42", mesh.vote(7, 5), 2);
        due.is("nextProbe(7, 5) in 42", mesh.nextProbe(7, 5), 95);
        due.is("failures(5) in 42", mesh.failures(5), 4);
        due.is("probes(5) in 42: 38 of each of seven, and 4", mesh.probes(5), 7 * 38 + 4);
        due.is("alarmCheck(0)", mesh.alarmCheck(0), 7);
        due.is("alarmRaised(0)", mesh.alarmRaised(0), 42);
    }

    private static void promise4EachPairOfItsOwn() {
        for (int check = 0; check < 8; check++) {
            for (int region = 0; region < 6; region++) {
                Probeweb mesh = Meshes.simple(6, 8);
                due.is("setDown of a full mesh", mesh.setDown(check, region, true), false);
                for (int other = 0; other < 8; other++) {
                    String where = "failing(" + other + "), " + check + " down for " + region;
                    due.is(where, mesh.failing(other), other == check ? 1 << region : 0);
                }
                due.is("setDown again of a full mesh", mesh.setDown(check, region, false), true);
                due.is("failing(" + check + ") after it", mesh.failing(check), 0);
            }
        }
    }

    private static void promise5EachRegionOfItsOwn() {
        for (int region = 0; region < 6; region++) {
            Probeweb mesh = Meshes.simple(6, 8);
            due.is("setCut of a full mesh", mesh.setCut(region, true), false);
            due.is("failing(7), " + region + " cut", mesh.failing(7), 1 << region);
            due.is("setCut again of a full mesh", mesh.setCut(region, false), true);
            due.is("failing(7), " + region + " no longer cut", mesh.failing(7), 0);
        }
    }

    private static void promise7TwelveWindows() {
        Probeweb mesh = Meshes.simple(0, 8);
        for (int window = 0; window < 11; window++) {
            mesh.addWindow(7, 0, 1);
        }
        due.is("addWindow(0, 5, 5), 11 windows", mesh.addWindow(0, 5, 5), 11);
        for (int times = 0; times < 3; times++) {
            due.badState("addWindow(0, 5, 5), 12 windows", () -> mesh.addWindow(0, 5, 5));
        }
        mesh.pass(200);
        due.badState("addWindow(0, 5, 5), 12 windows, all past", () -> mesh.addWindow(0, 5, 5));
        for (int window = 0; window < 12; window++) {
            mesh.endWindow(window);
        }
        due.badState("addWindow(0, 5, 5), 12 windows, all ended", () -> mesh.addWindow(0, 5, 5));
        due.noIndex("endWindow(12), 12 windows", () -> mesh.endWindow(12));
    }

    /** The twelfth window holds back an alarm, as any other does. */
    private static void promise7TwelfthWindow() {
        Probeweb mesh = Meshes.simple(6, 8);
        for (int window = 0; window < 11; window++) {
            mesh.addWindow(window % 7, 0, 100);
        }
        mesh.addWindow(7, 3, 2);
        mesh.pass(2);
        mesh.setDown(7, 0, true);
        due.is("pass(2) in the twelfth window", mesh.pass(2), 0);
        due.is("pass(1) after it", mesh.pass(1), 1);
        due.is("alarmRaised(0) after it", mesh.alarmRaised(0), 5);
        due.is("endWindow(11)", mesh.endWindow(11), 2);
    }

    private static void promise11AllFail() {
        Probeweb mesh = Meshes.simple(6, 8);
        for (int region = 0; region < 6; region++) {
            mesh.setDown(7, region, true);
        }
        due.is("failing(7), down for all", mesh.failing(7), 0b111111);
        due.is("failing(6), down for none", mesh.failing(6), 0);
    }

    private static void promise17AllBad() {
        Probeweb mesh = Meshes.chain(8);
        mesh.setCut(0, true);
        due.is("pass(6), all cut", mesh.pass(6), 0);
        for (int region = 0; region < 6; region++) {
            due.is("isBad(" + region + "), all cut", mesh.isBad(region), true);
        }
        for (int check = 0; check < 8; check++) {
            due.is("trusted(" + check + "), all bad", mesh.trusted(check), 0);
            due.is("verdict(" + check + "), all bad", mesh.verdict(check), 0);
        }
    }

    private static void promise18QuorumOfSix() {
        Probeweb mesh = Meshes.simple(6, 8);
        mesh.setQuorum(7, 6);
        mesh.pass(4);
        due.is("verdict(7): 5 trusted, quorum 6", mesh.verdict(7), 0);
        mesh.pass(1);
        due.is("verdict(7): 6 trusted, quorum 6", mesh.verdict(7), 1);
        for (int region = 0; region < 5; region++) {
            mesh.setDown(7, region, true);
        }
        mesh.pass(1);
        due.is("verdict(7): 5 of 6 down, quorum 6", mesh.verdict(7), 1);
        mesh.setDown(7, 5, true);
        due.is("pass(1): 6 of 6 down, quorum 6", mesh.pass(1), 1);
        due.is("verdict(7): 6 of 6 down, quorum 6", mesh.verdict(7), 2);
    }

    /** Alarms of one minute are numbered by rising check, whatever was set first. */
    private static void promise20EightAlarmsAtOnce() {
        Probeweb mesh = Meshes.simple(6, 8);
        mesh.pass(6);
        for (int check = 7; check >= 0; check--) {
            mesh.setDown(check, check % 6, true);
        }
        due.is("pass(1): all eight", mesh.pass(1), 8);
        for (int check = 0; check < 8; check++) {
            due.is("alarmCheck(" + check + ")", mesh.alarmCheck(check), check);
            due.is("alarmRaised(" + check + ")", mesh.alarmRaised(check), 7);
            due.is("hasAlarm(" + check + ")", mesh.hasAlarm(check), true);
            mesh.setDown(check, check % 6, false);
        }
        due.is("pass(1): all eight up", mesh.pass(1), 0);
        for (int check = 0; check < 8; check++) {
            due.is("alarmClosed(" + check + ")", mesh.alarmClosed(check), 8);
            due.is("hasAlarm(" + check + "), closed", mesh.hasAlarm(check), false);
        }
        due.is("alarms()", mesh.alarms(), 8);
    }
}
