import java.util.ArrayList;
import java.util.List;

/**
 * The document told once more, as word by word as it goes and without regard to cost, for calls
 * whose arguments are in order: what the class answers in long runs is compared with it.
 */
final class PlainMesh {
    final List<Integer> parents = new ArrayList<>();
    final List<int[]> checks = new ArrayList<>();
    final List<int[]> windows = new ArrayList<>();
    final List<int[]> alarms = new ArrayList<>();
    final boolean[] isCut = new boolean[6];
    final boolean[] isBad = new boolean[6];
    final int[] probes = new int[6];
    final int[] failures = new int[6];
    final boolean[][] isDown = new boolean[8][6];
    final int[][] vote = new int[8][6];
    final int[][] repetition = new int[8][6];
    final int[][] plannedFor = new int[8][6];
    final int[] verdict = new int[8];
    final int[] minutesUp = new int[8];
    final int[] minutesDown = new int[8];
    int minute = 0;

    private static final int INTERVAL = 0;
    private static final int OFFSET = 1;
    private static final int REPETITIONS = 2;
    static final int QUORUM = 3;

    List<Integer> path(int region) {
        List<Integer> path = new ArrayList<>();
        for (int r = region; r != -1; r = parents.get(r)) {
            path.add(r);
        }
        return path;
    }

    boolean fails(int check, int region) {
        boolean fails = isDown[check][region];
        for (int r : path(region)) {
            fails = fails || isCut[r];
        }
        return fails;
    }

    boolean isScheduled(int check, int region, int asked) {
        int since = asked - checks.get(check)[OFFSET] - region;
        return since >= 0 && since % checks.get(check)[INTERVAL] == 0;
    }

    int nextProbe(int check, int region) {
        if (repetition[check][region] > 0) {
            return plannedFor[check][region];
        }
        int next = minute + 1;
        while (!isScheduled(check, region, next)) {
            next++;
        }
        return next;
    }

    boolean isTrusted(int check, int region) {
        boolean isTrusted = vote[check][region] != 0;
        for (int r : path(region)) {
            isTrusted = isTrusted && !isBad[r];
        }
        return isTrusted;
    }

    int[] openAlarm(int check) {
        for (int[] alarm : alarms) {
            if (alarm[0] == check && alarm[2] == -1) {
                return alarm;
            }
        }
        return null;
    }

    boolean isMaintained(int check, int asked) {
        for (int[] window : windows) {
            if (window[0] == check && contains(window, asked)) {
                return true;
            }
        }
        return false;
    }

    /** A window is its check, its first minute, its minutes, and the minute in which it was ended first. */
    private static boolean contains(int[] window, int asked) {
        return asked >= window[1] && asked < window[1] + window[2] && asked <= window[3];
    }

    int endWindow(int number) {
        int[] window = windows.get(number);
        window[3] = Math.min(window[3], minute);
        int contained = 0;
        for (int asked = window[1]; asked < window[1] + window[2]; asked++) {
            contained += contains(window, asked) ? 1 : 0;
        }
        return contained;
    }

    int pass(int minutes) {
        int before = alarms.size();
        for (int passed = 0; passed < minutes; passed++) {
            minute++;
            for (int check = 0; check < checks.size(); check++) {
                for (int region = 0; region < parents.size(); region++) {
                    probe(check, region);
                }
            }
            judge();
        }
        return alarms.size() - before;
    }

    private void probe(int check, int region) {
        int made = repetition[check][region];
        if (made > 0 ? plannedFor[check][region] != minute : !isScheduled(check, region, minute)) {
            return;
        }
        repetition[check][region] = 0;
        probes[region]++;
        if (!fails(check, region)) {
            vote[check][region] = 1;
            return;
        }
        failures[region]++;
        if (vote[check][region] != 2) {
            int k = made + 1;
            if (k <= checks.get(check)[REPETITIONS]) {
                repetition[check][region] = k;
                plannedFor[check][region] = minute + 1 + (3 * check + 5 * region + 7 * k) % 4;
            } else {
                vote[check][region] = 2;
            }
        }
    }

    private void judge() {
        for (int region = 0; region < parents.size(); region++) {
            int[] votes = new int[3];
            for (int check = 0; check < checks.size(); check++) {
                votes[vote[check][region]]++;
            }
            isBad[region] = votes[1] + votes[2] >= 2 && votes[2] > votes[1];
        }
        for (int check = 0; check < checks.size(); check++) {
            verdict[check] = judged(check);
        }
        for (int check = 0; check < checks.size(); check++) {
            settle(check);
        }
    }

    private int judged(int check) {
        int quorum = checks.get(check)[QUORUM];
        int trusted = 0;
        int down = 0;
        for (int region = 0; region < parents.size(); region++) {
            if (isTrusted(check, region)) {
                trusted++;
                down += vote[check][region] == 2 ? 1 : 0;
            }
        }
        return trusted < quorum ? 0 : down >= quorum ? 2 : 1;
    }

    private void settle(int check) {
        int[] open = openAlarm(check);
        if (verdict[check] == 2) {
            minutesDown[check]++;
            if (open == null && !isMaintained(check, minute)) {
                alarms.add(new int[] {check, minute, -1});
            }
        }
        if (verdict[check] == 1) {
            minutesUp[check]++;
            if (open != null) {
                open[2] = minute;
            }
        }
    }
}
