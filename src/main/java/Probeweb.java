import java.util.ArrayList;

/**
 * A mesh of checks: services are probed from several regions on a schedule,
 * failed probes are repeated after short waits, regions vote whether a check
 * is up or down, and alarms are raised by a quorum of trusted regions.
 *
 * A set of regions is held as an int, with bit r for region r.
 */
public final class Probeweb {

    private static final int MOST_REGIONS = 6;
    private static final int MOST_CHECKS = 8;
    private static final int MOST_WINDOWS = 12;
    // More than 512 calls of 200 minutes can raise: it only bounds what is kept after them.
    private static final int MOST_ALARMS = 1000000;

    private static final int MOST_INTERVAL = 60;
    private static final int MOST_OFFSET = 1000;
    private static final int MOST_REPETITIONS = 3;
    private static final int MOST_QUORUM = 6;
    private static final int MOST_FIRST_MINUTE = 100000;
    private static final int MOST_WINDOW_MINUTES = 10000;
    private static final int MOST_PASSED_MINUTES = 200;

    private static final int NO_PARENT = -1;
    private static final int STILL_OPEN = -1;
    private static final int NO_REPETITION = 0;

    private static final int UNKNOWN = 0;
    private static final int UP = 1;
    private static final int DOWN = 2;

    private final ArrayList<Region> regions;
    private final ArrayList<Check> checks;
    private final ArrayList<Window> windows;
    private final ArrayList<Alarm> alarmLog;
    private int cutRegions;
    private int badRegions;
    private int minute;

    public Probeweb() {
        regions = new ArrayList<>();
        checks = new ArrayList<>();
        windows = new ArrayList<>();
        alarmLog = new ArrayList<>();
        cutRegions = 0;
        badRegions = 0;
        minute = 0;
    }

    // ---- regions and checks

    public int addRegion(int parent) throws IndexOutOfBoundsException, IllegalStateException {
        if (parent != NO_PARENT) {
            requireRegion(parent);
        }
        if (regions.size() >= MOST_REGIONS) {
            throw new IllegalStateException("there are 6 regions");
        }
        int region = regions.size();
        int parentPath = parent == NO_PARENT ? 0 : regions.get(parent).path;
        regions.add(new Region(region, parentPath));
        return region;
    }

    public int addCheck(int interval, int offset, int repetitions, int quorum)
            throws IllegalArgumentException, IllegalStateException {
        requireRange(interval, 1, MOST_INTERVAL);
        requireRange(offset, 0, MOST_OFFSET);
        requireRange(repetitions, 0, MOST_REPETITIONS);
        requireRange(quorum, 1, MOST_QUORUM);
        if (checks.size() >= MOST_CHECKS) {
            throw new IllegalStateException("there are 8 checks");
        }
        int check = checks.size();
        checks.add(new Check(check, interval, offset, repetitions, quorum));
        return check;
    }

    public boolean setDown(int check, int region, boolean isDown) throws IndexOutOfBoundsException {
        requireCheck(check);
        requireRegion(region);
        Check changed = checks.get(check);
        boolean before = holds(changed.downRegions, region);
        changed.downRegions = withRegion(changed.downRegions, region, isDown);
        return before;
    }

    public boolean setCut(int region, boolean isCut) throws IndexOutOfBoundsException {
        requireRegion(region);
        boolean before = holds(cutRegions, region);
        cutRegions = withRegion(cutRegions, region, isCut);
        return before;
    }

    public int setQuorum(int check, int quorum) throws IndexOutOfBoundsException, IllegalArgumentException {
        requireCheck(check);
        requireRange(quorum, 1, MOST_QUORUM);
        Check changed = checks.get(check);
        int before = changed.quorum;
        changed.quorum = quorum;
        return before;
    }

    public int addWindow(int check, int first, int minutes)
            throws IndexOutOfBoundsException, IllegalArgumentException, IllegalStateException {
        requireCheck(check);
        requireRange(first, 0, MOST_FIRST_MINUTE);
        requireRange(minutes, 1, MOST_WINDOW_MINUTES);
        if (windows.size() >= MOST_WINDOWS) {
            throw new IllegalStateException("there have been 12 windows");
        }
        windows.add(new Window(check, first, first + minutes - 1));
        return windows.size() - 1;
    }

    public int endWindow(int window) throws IndexOutOfBoundsException {
        if (window < 0 || window >= windows.size()) {
            throw new IndexOutOfBoundsException("no such window");
        }
        Window ended = windows.get(window);
        ended.endAfter(minute);
        return ended.length();
    }

    public int pass(int minutes) throws IllegalArgumentException {
        requireRange(minutes, 1, MOST_PASSED_MINUTES);
        int before = alarmLog.size();
        for (int passed = 0; passed < minutes; passed++) {
            passOneMinute();
        }
        return alarmLog.size() - before;
    }

    public int minute() {
        return minute;
    }

    // ---- probes and votes

    public int failing(int check) throws IndexOutOfBoundsException {
        requireCheck(check);
        int failing = 0;
        for (int r = 0; r < regions.size(); r++) {
            failing = withRegion(failing, r, wouldFail(checks.get(check), regions.get(r)));
        }
        return failing;
    }

    public int nextProbe(int check, int region) throws IndexOutOfBoundsException {
        requireCheck(check);
        requireRegion(region);
        return checks.get(check).nextMinuteFrom(region, minute + 1);
    }

    public int repetition(int check, int region) throws IndexOutOfBoundsException {
        requireCheck(check);
        requireRegion(region);
        return checks.get(check).planned[region];
    }

    public int vote(int check, int region) throws IndexOutOfBoundsException {
        requireCheck(check);
        requireRegion(region);
        return checks.get(check).votes[region];
    }

    public int probes(int region) throws IndexOutOfBoundsException {
        requireRegion(region);
        return regions.get(region).probesMade;
    }

    public int failures(int region) throws IndexOutOfBoundsException {
        requireRegion(region);
        return regions.get(region).probesFailed;
    }

    // ---- verdicts and alarms, as the last minute left them

    public boolean isBad(int region) throws IndexOutOfBoundsException {
        requireRegion(region);
        return holds(badRegions, region);
    }

    public int verdict(int check) throws IndexOutOfBoundsException {
        requireCheck(check);
        return checks.get(check).lastVerdict;
    }

    public int trusted(int check) throws IndexOutOfBoundsException {
        requireCheck(check);
        return trustedRegions(checks.get(check));
    }

    public int alarms() {
        return alarmLog.size();
    }

    public boolean hasAlarm(int check) throws IndexOutOfBoundsException {
        requireCheck(check);
        return checks.get(check).openAlarm != null;
    }

    public int alarmCheck(int alarm) throws IndexOutOfBoundsException {
        requireAlarm(alarm);
        return alarmLog.get(alarm).check;
    }

    public int alarmRaised(int alarm) throws IndexOutOfBoundsException {
        requireAlarm(alarm);
        return alarmLog.get(alarm).raised;
    }

    public int alarmClosed(int alarm) throws IndexOutOfBoundsException {
        requireAlarm(alarm);
        return alarmLog.get(alarm).closed;
    }

    public float availability(int check) throws IndexOutOfBoundsException, IllegalStateException {
        requireCheck(check);
        Check asked = checks.get(check);
        if (asked.minutesCounted == 0) {
            throw new IllegalStateException("the check has not been counted yet");
        }
        return (float) asked.minutesUp / (float) asked.minutesCounted;
    }

    // ---- what the calls require of their arguments

    private void requireRegion(int region) {
        if (region < 0 || region >= regions.size()) {
            throw new IndexOutOfBoundsException("no such region");
        }
    }

    private void requireCheck(int check) {
        if (check < 0 || check >= checks.size()) {
            throw new IndexOutOfBoundsException("no such check");
        }
    }

    private void requireAlarm(int alarm) {
        if (alarm < 0 || alarm >= alarmLog.size()) {
            throw new IndexOutOfBoundsException("no such alarm");
        }
    }

    private static void requireRange(int value, int least, int most) {
        if (value < least || value > most) {
            throw new IllegalArgumentException("an argument is out of range");
        }
    }

    // ---- sets of regions

    private static boolean holds(int set, int region) {
        return (set & (1 << region)) != 0;
    }

    private static int withRegion(int set, int region, boolean isIn) {
        return isIn ? set | (1 << region) : set & ~(1 << region);
    }

    // ---- the steps of a minute

    private void passOneMinute() {
        minute++;
        makeProbes();
        judgeRegions();
        judgeChecks();
        raiseAndCloseAlarms();
        countMinute();
    }

    private void makeProbes() {
        for (int c = 0; c < checks.size(); c++) {
            for (int r = 0; r < regions.size(); r++) {
                if (checks.get(c).isDue(r, minute)) {
                    makeProbe(checks.get(c), regions.get(r));
                }
            }
        }
    }

    private void makeProbe(Check check, Region region) {
        region.probesMade++;
        if (wouldFail(check, region)) {
            region.probesFailed++;
            check.takeFailure(region.number, minute);
        } else {
            check.takeSuccess(region.number);
        }
    }

    private boolean wouldFail(Check check, Region region) {
        return holds(check.downRegions, region.number) || (region.path & cutRegions) != 0;
    }

    private void judgeRegions() {
        for (int r = 0; r < regions.size(); r++) {
            badRegions = withRegion(badRegions, r, votesAreBad(r));
        }
    }

    private boolean votesAreBad(int region) {
        int known = 0;
        int down = 0;
        for (int c = 0; c < checks.size(); c++) {
            int vote = checks.get(c).votes[region];
            if (vote != UNKNOWN) {
                known++;
            }
            if (vote == DOWN) {
                down++;
            }
        }
        return known >= 2 && 2 * down > known;
    }

    private void judgeChecks() {
        for (int c = 0; c < checks.size(); c++) {
            Check check = checks.get(c);
            check.judge(trustedRegions(check));
        }
    }

    private int trustedRegions(Check check) {
        int trusted = 0;
        for (int r = 0; r < regions.size(); r++) {
            boolean isTrusted = check.votes[r] != UNKNOWN && (regions.get(r).path & badRegions) == 0;
            trusted = withRegion(trusted, r, isTrusted);
        }
        return trusted;
    }

    private void raiseAndCloseAlarms() {
        for (int c = 0; c < checks.size(); c++) {
            Check check = checks.get(c);
            if (check.lastVerdict == DOWN && check.openAlarm == null && !isMaintained(check)) {
                raiseAlarm(check);
            } else if (check.lastVerdict == UP && check.openAlarm != null) {
                check.openAlarm.closed = minute;
                check.openAlarm = null;
            }
        }
    }

    private boolean isMaintained(Check check) {
        for (int w = 0; w < windows.size(); w++) {
            Window window = windows.get(w);
            if (window.check == check.number && window.contains(minute)) {
                return true;
            }
        }
        return false;
    }

    private void raiseAlarm(Check check) {
        if (alarmLog.size() < MOST_ALARMS) {
            check.openAlarm = new Alarm(check.number, minute);
            alarmLog.add(check.openAlarm);
        }
    }

    private void countMinute() {
        for (int c = 0; c < checks.size(); c++) {
            Check check = checks.get(c);
            if (check.lastVerdict != UNKNOWN) {
                check.minutesCounted++;
            }
            if (check.lastVerdict == UP) {
                check.minutesUp++;
            }
        }
    }

    private static final class Region {
        final int number;
        // The set of the region and all above it: parents never change.
        final int path;
        int probesMade;
        int probesFailed;

        Region(int number, int parentPath) {
            this.number = number;
            this.path = withRegion(parentPath, number, true);
        }
    }

    private static final class Check {
        final int number;
        final int interval;
        final int offset;
        final int repetitions;
        int quorum;
        int downRegions;
        // For each region: its vote, the repetition that is planned, and the minute of that.
        final int[] votes;
        final int[] planned;
        final int[] plannedMinute;
        int lastVerdict;
        Alarm openAlarm;
        int minutesUp;
        int minutesCounted;

        Check(int number, int interval, int offset, int repetitions, int quorum) {
            this.number = number;
            this.interval = interval;
            this.offset = offset;
            this.repetitions = repetitions;
            this.quorum = quorum;
            this.votes = new int[MOST_REGIONS];
            this.planned = new int[MOST_REGIONS];
            this.plannedMinute = new int[MOST_REGIONS];
        }

        boolean isDue(int region, int minute) {
            return nextMinuteFrom(region, minute) == minute;
        }

        /** The first minute of a probe that is not before the given one. */
        int nextMinuteFrom(int region, int minute) {
            if (planned[region] != NO_REPETITION) {
                return plannedMinute[region];
            }
            int start = offset + region;
            if (minute <= start) {
                return start;
            }
            int late = (minute - start) % interval;
            return late == 0 ? minute : minute + interval - late;
        }

        void takeSuccess(int region) {
            planned[region] = NO_REPETITION;
            votes[region] = UP;
        }

        void takeFailure(int region, int minute) {
            int next = planned[region] + 1;
            planned[region] = NO_REPETITION;
            if (votes[region] == DOWN) {
                return;
            }
            if (next > repetitions) {
                votes[region] = DOWN;
                return;
            }
            planned[region] = next;
            plannedMinute[region] = minute + 1 + (3 * number + 5 * region + 7 * next) % 4;
        }

        void judge(int trusted) {
            int down = 0;
            for (int r = 0; r < MOST_REGIONS; r++) {
                if (holds(trusted, r) && votes[r] == DOWN) {
                    down++;
                }
            }
            if (Integer.bitCount(trusted) < quorum) {
                lastVerdict = UNKNOWN;
            } else {
                lastVerdict = down >= quorum ? DOWN : UP;
            }
        }
    }

    private static final class Window {
        final int check;
        final int first;
        int last;

        Window(int check, int first, int last) {
            this.check = check;
            this.first = first;
            this.last = last;
        }

        boolean contains(int minute) {
            return first <= minute && minute <= last;
        }

        void endAfter(int minute) {
            last = Math.min(last, minute);
        }

        int length() {
            return Math.max(0, last - first + 1);
        }
    }

    private static final class Alarm {
        final int check;
        final int raised;
        int closed;

        Alarm(int check, int raised) {
            this.check = check;
            this.raised = raised;
            this.closed = STILL_OPEN;
        }
    }
}
