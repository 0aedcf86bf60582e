/** Everything that the calls without a change tell of a mesh, as one text. */
final class Seen {
    private Seen() {
    }

    static String of(Probeweb mesh, int regions, int checks) {
        StringBuilder text = new StringBuilder();
        text.append("minute ").append(mesh.minute()).append(" alarms ").append(mesh.alarms());
        for (int r = 0; r < regions; r++) {
            text.append("\nregion ").append(r).append(": ").append(region(mesh, r));
        }
        for (int c = 0; c < checks; c++) {
            text.append("\ncheck ").append(c).append(": ").append(check(mesh, c));
            for (int r = 0; r < regions; r++) {
                text.append(" [").append(pair(mesh, c, r)).append(']');
            }
        }
        for (int a = 0; a < mesh.alarms(); a++) {
            text.append("\nalarm ").append(a).append(": ").append(mesh.alarmCheck(a));
            text.append(' ').append(mesh.alarmRaised(a)).append(' ').append(mesh.alarmClosed(a));
        }
        return text.toString();
    }

    private static String region(Probeweb mesh, int r) {
        return mesh.probes(r) + " " + mesh.failures(r) + " " + mesh.isBad(r);
    }

    private static String check(Probeweb mesh, int c) {
        String availability;
        try {
            availability = String.valueOf(mesh.availability(c));
        } catch (IllegalStateException notCounted) {
            availability = "not counted";
        }
        return mesh.failing(c) + " " + mesh.verdict(c) + " " + mesh.trusted(c) + " " + mesh.hasAlarm(c)
                + " " + availability;
    }

    private static String pair(Probeweb mesh, int c, int r) {
        return mesh.nextProbe(c, r) + " " + mesh.repetition(c, r) + " " + mesh.vote(c, r);
    }
}
