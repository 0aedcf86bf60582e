/** Everything that a mesh can be asked, as one text: some 400 calls on a full one. */
final class Seen {
    private Seen() {
    }

    /** What the calls without a change tell. */
    static String of(Probeweb mesh, int regions, int checks) {
        StringBuilder text = new StringBuilder();
        int alarms = mesh.alarms();
        text.append("minute ").append(mesh.minute()).append(" alarms ").append(alarms);
        for (int r = 0; r < regions; r++) {
            text.append("\nregion ").append(r).append(": ").append(region(mesh, r));
        }
        for (int c = 0; c < checks; c++) {
            text.append("\ncheck ").append(c).append(": ").append(check(mesh, c));
            for (int r = 0; r < regions; r++) {
                text.append(" [").append(pair(mesh, c, r)).append(']');
            }
        }
        for (int a = 0; a < alarms; a++) {
            text.append("\nalarm ").append(a).append(": ").append(mesh.alarmCheck(a));
            text.append(' ').append(mesh.alarmRaised(a)).append(' ').append(mesh.alarmClosed(a));
        }
        return text.toString();
    }

    /** What is told just by setting it anew, and what can be added: the mesh is another one after this. */
    static String bySetting(Probeweb mesh, int regions, int checks, int windows) {
        StringBuilder text = new StringBuilder();
        for (int r = 0; r < regions; r++) {
            text.append("\ncut ").append(mesh.setCut(r, true));
        }
        for (int c = 0; c < checks; c++) {
            text.append("\nquorum ").append(mesh.setQuorum(c, 1)).append(" down");
            for (int r = 0; r < regions; r++) {
                text.append(' ').append(mesh.setDown(c, r, true));
            }
        }
        for (int w = 0; w < windows; w++) {
            text.append("\nwindow ").append(mesh.endWindow(w));
        }
        text.append("\nadded ").append(Due.outcome(() -> mesh.addRegion(-1)));
        text.append(' ').append(Due.outcome(() -> mesh.addCheck(1, 0, 0, 1)));
        text.append(' ').append(Due.outcome(() -> mesh.addWindow(0, 0, 1)));
        return text.toString();
    }

    private static String region(Probeweb mesh, int r) {
        return mesh.probes(r) + " " + mesh.failures(r) + " " + mesh.isBad(r);
    }

    private static String check(Probeweb mesh, int c) {
        String availability;
        try {
            availability = String.valueOf(mesh.availability(c));
        } catch (IllegalStateException notCounted) {
            availability = "not counted";
        }
        return mesh.failing(c) + " " + mesh.verdict(c) + " " + mesh.trusted(c) + " " + mesh.hasAlarm(c)
                + " " + availability;
    }

    private static String pair(Probeweb mesh, int c, int r) {
        return mesh.nextProbe(c, r) + " " + mesh.repetition(c, r) + " " + mesh.vote(c, r);
    }
}
