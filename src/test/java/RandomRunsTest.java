/** Long runs of calls with arguments in and out of range, compared with the plain telling of the document. */
public final class RandomRunsTest {
    private static final int RUNS = 300;
    private static final int CALLS = 512;
    private static final Due due = new Due();

    private final Probeweb mesh = new Probeweb();
    private final PlainCalls plain = new PlainCalls();
    private final int run;
    // Most minutes that one call lets pass: some runs are slow and closely watched, others are long.
    private final int stride;
    private long seed;
    private int callsMade = 0;

    private RandomRunsTest(int run) {
        this.run = run;
        this.seed = 7919L * run + 17;
        this.stride = run % 4 == 0 ? 203 : run % 4 == 1 ? 40 : 6;
    }

    public static void main(String[] args) {
        for (int run = 0; run < RUNS; run++) {
            RandomRunsTest test = new RandomRunsTest(run);
            while (test.callsMade < CALLS) {
                test.makeCall(test.callsMade);
            }
        }
        due.end();
    }

    /** From least to most: the same ones for the same run. */
    private int any(int least, int most) {
        seed = seed * 6364136223846793005L + 1442695040888963407L;
        return least + (int) ((seed >>> 33) % (most - least + 1));
    }

    /** Nearly always from least to most, seldom just outside, or far. */
    private int anyNear(int least, int most) {
        int kind = any(0, 59);
        if (kind == 0) {
            return least - 1;
        }
        if (kind == 1) {
            return most + 1;
        }
        if (kind == 2) {
            return any(0, 1) == 0 ? Integer.MIN_VALUE : Integer.MAX_VALUE;
        }
        return kind < 8 ? (kind % 2 == 0 ? least : most) : any(least, most);
    }

    private int anyRegion() {
        return anyNear(0, Math.max(0, plain.mesh.parents.size() - 1));
    }

    private int anyCheck() {
        return anyNear(0, Math.max(0, plain.mesh.checks.size() - 1));
    }

    /** What an object answers beyond its last call is free. */
    private void compare(String call, Due.Call made, String answer) {
        if (callsMade < CALLS) {
            callsMade++;
            due.is("run " + run + ": " + call, Due.outcome(made), answer);
        }
    }

    private void makeCall(int call) {
        int kind = call < 20 ? any(0, 11) : any(6, 119);
        if (kind < 9) {
            addRegionOrCheck(kind);
        } else if (kind < 20) {
            addOrEndWindow();
        } else if (kind < 50) {
            setWorld(kind);
        } else if (kind < 72) {
            int minutes = any(0, 30) == 0 ? anyNear(1, 200) : any(1, Math.min(stride, 200));
            compare("pass(" + minutes + ")", () -> mesh.pass(minutes), plain.pass(minutes));
        } else if (kind < 90) {
            askPair(kind % 4);
        } else if (kind < 105) {
            askCheck(kind % 4);
        } else {
            askRegionOrAlarm(kind % 7);
        }
    }

    private void addRegionOrCheck(int kind) {
        if (kind % 2 == 0) {
            int parent = anyNear(-1, plain.mesh.parents.size() - 1);
            compare("addRegion(" + parent + ")", () -> mesh.addRegion(parent), plain.addRegion(parent));
            return;
        }
        int interval = any(0, 3) > 0 ? anyNear(1, 8) : anyNear(1, 60);
        int offset = any(0, 3) > 0 ? anyNear(0, 9) : anyNear(0, 1000);
        int repetitions = anyNear(0, 3);
        int quorum = any(0, 3) > 0 ? anyNear(1, 3) : anyNear(1, 6);
        compare("addCheck(" + interval + ", " + offset + ", " + repetitions + ", " + quorum + ")",
                () -> mesh.addCheck(interval, offset, repetitions, quorum),
                plain.addCheck(interval, offset, repetitions, quorum));
    }

    private void addOrEndWindow() {
        if (any(0, 2) == 0) {
            int window = anyNear(0, plain.mesh.windows.size());
            compare("endWindow(" + window + ")", () -> mesh.endWindow(window), plain.endWindow(window));
            return;
        }
        int check = anyCheck();
        int now = plain.mesh.minute;
        int first = any(0, 3) > 0 ? any(Math.max(0, now - 20), now + 40) : anyNear(0, 100000);
        int minutes = any(0, 3) > 0 ? anyNear(1, 60) : anyNear(1, 10000);
        compare("addWindow(" + check + ", " + first + ", " + minutes + ")",
                () -> mesh.addWindow(check, first, minutes), plain.addWindow(check, first, minutes));
    }

    private void setWorld(int kind) {
        int check = anyCheck();
        int region = anyRegion();
        boolean is = any(0, 1) == 0;
        if (kind < 38) {
            compare("setDown(" + check + ", " + region + ", " + is + ")",
                    () -> Due.number(mesh.setDown(check, region, is)), plain.setDown(check, region, is));
        } else if (kind < 44) {
            compare("setCut(" + region + ", " + is + ")",
                    () -> Due.number(mesh.setCut(region, is)), plain.setCut(region, is));
        } else {
            int quorum = anyNear(1, 6);
            compare("setQuorum(" + check + ", " + quorum + ")",
                    () -> mesh.setQuorum(check, quorum), plain.setQuorum(check, quorum));
        }
    }

    private void askPair(int kind) {
        int check = anyCheck();
        int region = anyRegion();
        String where = "(" + check + ", " + region + ")";
        if (kind == 0) {
            compare("repetition" + where, () -> mesh.repetition(check, region), plain.repetition(check, region));
        } else if (kind == 1) {
            compare("vote" + where, () -> mesh.vote(check, region), plain.vote(check, region));
        } else {
            compare("nextProbe" + where, () -> mesh.nextProbe(check, region), plain.nextProbe(check, region));
        }
    }

    private void askCheck(int kind) {
        int check = anyCheck();
        String where = "(" + check + ")";
        if (kind == 0) {
            compare("failing" + where, () -> mesh.failing(check), plain.failing(check));
            compare("hasAlarm" + where, () -> Due.number(mesh.hasAlarm(check)), plain.hasAlarm(check));
        } else if (kind == 1) {
            compare("verdict" + where, () -> mesh.verdict(check), plain.verdict(check));
        } else if (kind == 2) {
            compare("trusted" + where, () -> mesh.trusted(check), plain.trusted(check));
        } else {
            compare("availability" + where, () -> Float.floatToIntBits(mesh.availability(check)),
                    plain.availability(check));
        }
    }

    private void askRegionOrAlarm(int kind) {
        int region = anyRegion();
        int alarm = anyNear(0, plain.mesh.alarms.size());
        if (kind == 0) {
            compare("minute()", () -> mesh.minute(), String.valueOf(plain.mesh.minute));
            compare("alarms()", () -> mesh.alarms(), String.valueOf(plain.mesh.alarms.size()));
        } else if (kind == 1) {
            compare("probes(" + region + ")", () -> mesh.probes(region), plain.probes(region));
        } else if (kind == 2) {
            compare("failures(" + region + ")", () -> mesh.failures(region), plain.failures(region));
        } else if (kind == 3) {
            compare("isBad(" + region + ")", () -> Due.number(mesh.isBad(region)), plain.isBad(region));
        } else if (kind == 4) {
            compare("alarmCheck(" + alarm + ")", () -> mesh.alarmCheck(alarm), plain.alarm(alarm, 0));
        } else if (kind == 5) {
            compare("alarmRaised(" + alarm + ")", () -> mesh.alarmRaised(alarm), plain.alarm(alarm, 1));
        } else {
            compare("alarmClosed(" + alarm + ")", () -> mesh.alarmClosed(alarm), plain.alarm(alarm, 2));
        }
    }
}
