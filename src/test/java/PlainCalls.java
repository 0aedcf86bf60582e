/** The calls of the face on a PlainMesh: what is thrown, as the document names it, or what it answers. */
final class PlainCalls {
    private static final String NO_INDEX = "throws.IndexOutOfBoundsException";
    private static final String BAD_ARGUMENT = "throws.IllegalArgumentException";
    private static final String BAD_STATE = "throws.IllegalStateException";

    final PlainMesh mesh = new PlainMesh();

    private boolean isRegion(int region) {
        return 0 <= region && region < mesh.parents.size();
    }

    private boolean isCheck(int check) {
        return 0 <= check && check < mesh.checks.size();
    }

    private static boolean isIn(int value, int least, int most) {
        return least <= value && value <= most;
    }

    private static String text(long answer) {
        return String.valueOf(answer);
    }

    String addRegion(int parent) {
        if (parent != -1 && !isRegion(parent)) {
            return NO_INDEX;
        }
        if (mesh.parents.size() == 6) {
            return BAD_STATE;
        }
        mesh.parents.add(parent);
        return text(mesh.parents.size() - 1);
    }

    String addCheck(int interval, int offset, int repetitions, int quorum) {
        if (!isIn(interval, 1, 60) || !isIn(offset, 0, 1000) || !isIn(repetitions, 0, 3) || !isIn(quorum, 1, 6)) {
            return BAD_ARGUMENT;
        }
        if (mesh.checks.size() == 8) {
            return BAD_STATE;
        }
        mesh.checks.add(new int[] {interval, offset, repetitions, quorum});
        return text(mesh.checks.size() - 1);
    }

    String setDown(int check, int region, boolean isDown) {
        if (!isCheck(check) || !isRegion(region)) {
            return NO_INDEX;
        }
        boolean before = mesh.isDown[check][region];
        mesh.isDown[check][region] = isDown;
        return text(Due.number(before));
    }

    String setCut(int region, boolean isCut) {
        if (!isRegion(region)) {
            return NO_INDEX;
        }
        boolean before = mesh.isCut[region];
        mesh.isCut[region] = isCut;
        return text(Due.number(before));
    }

    String setQuorum(int check, int quorum) {
        if (!isCheck(check)) {
            return NO_INDEX;
        }
        if (!isIn(quorum, 1, 6)) {
            return BAD_ARGUMENT;
        }
        int before = mesh.checks.get(check)[PlainMesh.QUORUM];
        mesh.checks.get(check)[PlainMesh.QUORUM] = quorum;
        return text(before);
    }

    String addWindow(int check, int first, int minutes) {
        if (!isCheck(check)) {
            return NO_INDEX;
        }
        if (!isIn(first, 0, 100000) || !isIn(minutes, 1, 10000)) {
            return BAD_ARGUMENT;
        }
        if (mesh.windows.size() == 12) {
            return BAD_STATE;
        }
        mesh.windows.add(new int[] {check, first, minutes, Integer.MAX_VALUE});
        return text(mesh.windows.size() - 1);
    }

    String endWindow(int window) {
        return 0 <= window && window < mesh.windows.size() ? text(mesh.endWindow(window)) : NO_INDEX;
    }

    String pass(int minutes) {
        return isIn(minutes, 1, 200) ? text(mesh.pass(minutes)) : BAD_ARGUMENT;
    }

    String failing(int check) {
        if (!isCheck(check)) {
            return NO_INDEX;
        }
        int set = 0;
        for (int region = 0; region < mesh.parents.size(); region++) {
            set += mesh.fails(check, region) ? 1 << region : 0;
        }
        return text(set);
    }

    String nextProbe(int check, int region) {
        return isCheck(check) && isRegion(region) ? text(mesh.nextProbe(check, region)) : NO_INDEX;
    }

    String repetition(int check, int region) {
        return isCheck(check) && isRegion(region) ? text(mesh.repetition[check][region]) : NO_INDEX;
    }

    String vote(int check, int region) {
        return isCheck(check) && isRegion(region) ? text(mesh.vote[check][region]) : NO_INDEX;
    }

    String probes(int region) {
        return isRegion(region) ? text(mesh.probes[region]) : NO_INDEX;
    }

    String failures(int region) {
        return isRegion(region) ? text(mesh.failures[region]) : NO_INDEX;
    }

    String isBad(int region) {
        return isRegion(region) ? text(Due.number(mesh.isBad[region])) : NO_INDEX;
    }

    String verdict(int check) {
        return isCheck(check) ? text(mesh.verdict[check]) : NO_INDEX;
    }

    String trusted(int check) {
        if (!isCheck(check)) {
            return NO_INDEX;
        }
        int set = 0;
        for (int region = 0; region < mesh.parents.size(); region++) {
            set += mesh.isTrusted(check, region) ? 1 << region : 0;
        }
        return text(set);
    }

    String hasAlarm(int check) {
        return isCheck(check) ? text(Due.number(mesh.openAlarm(check) != null)) : NO_INDEX;
    }

    /** What an alarm has: 0 its check, 1 the minute it was raised, 2 the minute it was closed. */
    String alarm(int alarm, int which) {
        return 0 <= alarm && alarm < mesh.alarms.size() ? text(mesh.alarms.get(alarm)[which]) : NO_INDEX;
    }

    /** The bits of the float. */
    String availability(int check) {
        if (!isCheck(check)) {
            return NO_INDEX;
        }
        int counted = mesh.minutesUp[check] + mesh.minutesDown[check];
        if (counted == 0) {
            return BAD_STATE;
        }
        return text(Float.floatToIntBits((float) mesh.minutesUp[check] / (float) counted));
    }
}
