/** Promises 7 and 8, and step 4: the minutes that a window contains, to its first and its last one. */
public final class WindowsTest {
    private static final Due due = new Due();

    public static void main(String[] args) {
        firstAndLastMinute();
        windowsOfOneMinute();
        windowsFromMinuteZero();
        windowsThatAreOver();
        windowsSideBySide();
        windowsOfOtherChecks();
        endedAroundItsMinutes();
        endedBeforeItBegins();
        endedTwice();
        endedBesideAnother();
        openAlarmInAWindow();
        downInAWindowAlone();
        due.end();
    }

    /** The minute in which an alarm is raised for a check that goes down in the given one. */
    private static int raised(Probeweb mesh, int down) {
        mesh.pass(down - 1);
        mesh.setDown(0, 0, true);
        mesh.pass(100);
        return mesh.alarmRaised(0);
    }

    /** A window over the minutes 5 to 7, and a check that goes down around it. */
    private static void firstAndLastMinute() {
        int[][] downAndRaised = {{3, 3}, {4, 4}, {5, 8}, {6, 8}, {7, 8}, {8, 8}, {9, 9}};
        for (int[] asked : downAndRaised) {
            Probeweb mesh = Meshes.simple(1, 1);
            mesh.addWindow(0, 5, 3);
            due.is("minutes 5 to 7, down in " + asked[0], raised(mesh, asked[0]), asked[1]);
        }
    }

    private static void windowsOfOneMinute() {
        int[][] downAndRaised = {{4, 4}, {5, 6}, {6, 6}};
        for (int[] asked : downAndRaised) {
            Probeweb mesh = Meshes.simple(1, 1);
            mesh.addWindow(0, 5, 1);
            due.is("minute 5 alone, down in " + asked[0], raised(mesh, asked[0]), asked[1]);
        }
    }

    /** Minute 0 is one of the window's minutes. */
    private static void windowsFromMinuteZero() {
        int[][] minutesAndRaised = {{1, 2}, {2, 2}, {3, 3}, {4, 4}};
        for (int[] asked : minutesAndRaised) {
            Probeweb mesh = Meshes.simple(1, 1);
            mesh.addWindow(0, 0, asked[0]);
            due.is(asked[0] + " minutes from 0, down in 2", raised(mesh, 2), asked[1]);
        }
    }

    private static void windowsThatAreOver() {
        Probeweb mesh = Meshes.simple(1, 1);
        mesh.pass(50);
        due.is("addWindow(0, 10, 40) in 50", mesh.addWindow(0, 10, 40), 0);
        due.is("addWindow(0, 0, 50) in 50", mesh.addWindow(0, 0, 50), 1);
        mesh.setDown(0, 0, true);
        due.is("pass(1) after all windows", mesh.pass(1), 1);
        due.is("endWindow(0): all its minutes", mesh.endWindow(0), 40);
        due.is("endWindow(1): all its minutes", mesh.endWindow(1), 50);
    }

    /** One after the other, with a minute between, over each other, and one inside another. */
    private static void windowsSideBySide() {
        int[][] windowsAndRaised = {{3, 2, 5, 2, 7}, {5, 2, 3, 2, 7}, {3, 2, 6, 2, 5}, {3, 4, 5, 4, 9},
            {3, 9, 5, 2, 12}};
        for (int[] asked : windowsAndRaised) {
            Probeweb mesh = Meshes.simple(1, 1);
            mesh.addWindow(0, asked[0], asked[1]);
            mesh.addWindow(0, asked[2], asked[3]);
            String windows = asked[1] + " minutes from " + asked[0] + ", " + asked[3] + " from " + asked[2];
            due.is(windows + ", down in 3", raised(mesh, 3), asked[4]);
        }
    }

    private static void windowsOfOtherChecks() {
        Probeweb mesh = Meshes.simple(3, 3);
        mesh.addWindow(1, 0, 10000);
        mesh.addWindow(2, 0, 10000);
        due.is("windows of the other checks", raised(mesh, 5), 5);
    }

    /** Minutes 5 to 7, ended in each minute around them: what is left, and when an alarm is raised. */
    private static void endedAroundItsMinutes() {
        int[][] endLeftRaised = {{0, 0, 5}, {3, 0, 5}, {4, 0, 5}, {5, 1, 6}, {6, 2, 7}, {7, 3, 8}, {8, 3, 8},
            {9, 3, 8}};
        for (int[] asked : endLeftRaised) {
            Probeweb mesh = Meshes.simple(1, 1);
            mesh.addWindow(0, 5, 3);
            for (int minute = 0; minute < 12; minute++) {
                if (minute == 4) {
                    mesh.setDown(0, 0, true);
                }
                if (minute == asked[0]) {
                    due.is("minutes 5 to 7, endWindow(0) in " + minute, mesh.endWindow(0), asked[1]);
                }
                mesh.pass(1);
            }
            due.is("minutes 5 to 7, ended in " + asked[0] + ": raised", mesh.alarmRaised(0), asked[2]);
            due.is("minutes 5 to 7, ended in " + asked[0] + ": alarms", mesh.alarms(), 1);
        }
    }

    /** A window that has no minute left does not come back when its first minute is there. */
    private static void endedBeforeItBegins() {
        Probeweb mesh = Meshes.simple(1, 1);
        mesh.addWindow(0, 100000, 10000);
        mesh.addWindow(0, 1, 10000);
        due.is("endWindow(0), far ahead", mesh.endWindow(0), 0);
        due.is("endWindow(1), one minute ahead", mesh.endWindow(1), 0);
        due.is("endWindow(0) again, far ahead", mesh.endWindow(0), 0);
        mesh.setDown(0, 0, true);
        due.is("pass(1), ended ones alone", mesh.pass(1), 1);
        due.is("endWindow(1), in what was its first minute", mesh.endWindow(1), 0);
        mesh.pass(100);
        due.is("endWindow(1), later", mesh.endWindow(1), 0);
    }

    /** What was left out once is left out for good. */
    private static void endedTwice() {
        Probeweb mesh = Meshes.simple(1, 1);
        mesh.addWindow(0, 2, 8);
        mesh.pass(3);
        due.is("minutes 2 to 9, endWindow(0) in 3", mesh.endWindow(0), 2);
        due.is("minutes 2 to 9, endWindow(0) in 3 again", mesh.endWindow(0), 2);
        mesh.pass(1);
        due.is("minutes 2 to 9, endWindow(0) in 4", mesh.endWindow(0), 2);
        mesh.setDown(0, 0, true);
        due.is("pass(1), ended twice", mesh.pass(1), 1);
        mesh.pass(20);
        due.is("minutes 2 to 9, endWindow(0) in 25", mesh.endWindow(0), 2);
    }

    private static void endedBesideAnother() {
        Probeweb mesh = Meshes.simple(1, 1);
        mesh.addWindow(0, 2, 8);
        mesh.addWindow(0, 2, 4);
        mesh.addWindow(0, 2, 3);
        mesh.pass(3);
        due.is("endWindow(0), not the others", mesh.endWindow(0), 2);
        mesh.setDown(0, 0, true);
        due.is("pass(2): the others still hold", mesh.pass(2), 0);
        due.is("endWindow(1) in its last minute", mesh.endWindow(1), 4);
        due.is("pass(1): none holds", mesh.pass(1), 1);
        due.is("endWindow(2) after its last minute", mesh.endWindow(2), 3);
    }

    /** A window neither closes an alarm nor raises it anew when it is over. */
    private static void openAlarmInAWindow() {
        Probeweb mesh = Meshes.simple(1, 1);
        mesh.addWindow(0, 5, 3);
        due.is("raised before the window", raised(mesh, 4), 4);
        due.is("alarms(): one, through the window", mesh.alarms(), 1);
        due.is("alarmClosed(0): open through the window", mesh.alarmClosed(0), -1);

        Probeweb closing = Meshes.simple(1, 1);
        closing.addWindow(0, 5, 3);
        closing.pass(3);
        closing.setDown(0, 0, true);
        closing.pass(1);
        closing.setDown(0, 0, false);
        closing.pass(1);
        due.is("alarmClosed(0): in the window's first minute", closing.alarmClosed(0), 5);
        closing.setDown(0, 0, true);
        due.is("pass(2): not anew in the window", closing.pass(2), 0);
        due.is("pass(1): anew after its last minute", closing.pass(1), 1);
    }

    /** Down in the last minute of the window and up in the next one: no alarm, but a minute that counts. */
    private static void downInAWindowAlone() {
        Probeweb mesh = Meshes.simple(1, 1);
        mesh.addWindow(0, 1, 3);
        mesh.pass(2);
        mesh.setDown(0, 0, true);
        due.is("pass(1), the last minute of the window", mesh.pass(1), 0);
        due.is("verdict(0) in the window", mesh.verdict(0), 2);
        due.is("hasAlarm(0) in the window", mesh.hasAlarm(0), false);
        mesh.setDown(0, 0, false);
        due.is("pass(1), after the window", mesh.pass(1), 0);
        due.is("alarms() after the window", mesh.alarms(), 0);
        due.is("availability(0): 3 of 4", mesh.availability(0), 0.75f);
    }
}
