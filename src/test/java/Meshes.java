/** Meshes that several tests begin with. */
final class Meshes {
    private Meshes() {
    }

    /** Regions without parents, and checks probed in each minute, without repetitions, with quorum 1. */
    static Probeweb simple(int regions, int checks) {
        Probeweb mesh = new Probeweb();
        for (int region = 0; region < regions; region++) {
            mesh.addRegion(-1);
        }
        for (int check = 0; check < checks; check++) {
            mesh.addCheck(1, 0, 0, 1);
        }
        return mesh;
    }

    /** Six regions, each under the one before it, which is the longest path there can be. */
    static Probeweb chain(int checks) {
        Probeweb mesh = simple(0, checks);
        for (int region = 0; region < 6; region++) {
            mesh.addRegion(region - 1);
        }
        return mesh;
    }

    /** As many regions, checks and windows as there can be, each check and window unlike the others. */
    static Probeweb full() {
        Probeweb mesh = new Probeweb();
        for (int region = 0; region < 6; region++) {
            mesh.addRegion(region % 3 - 1);
        }
        for (int check = 0; check < 8; check++) {
            mesh.addCheck(check + 1, 2 * check, check % 4, check % 3 + 1);
            mesh.setDown(check, check % 6, true);
            mesh.setDown(check, (check + 2) % 6, true);
        }
        for (int window = 0; window < 12; window++) {
            mesh.addWindow(window % 8, 3 * window, window + 1);
        }
        mesh.setCut(4, true);
        return mesh;
    }

    /** More minutes than one call lets pass. */
    static void passMany(Probeweb mesh, int minutes) {
        for (int left = minutes; left > 0; left -= 200) {
            mesh.pass(Math.min(left, 200));
        }
    }
}
