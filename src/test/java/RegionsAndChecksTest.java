/** Promises 1 to 10: the calls under "regions and checks". */
public final class RegionsAndChecksTest {
    private static final Due due = new Due();

    public static void main(String[] args) {
        promise1NewObject();
        promise2AddRegion();
        promise2Paths();
        promise3AddCheck();
        promise4SetDown();
        promise5SetCut();
        promise6SetQuorum();
        promise6VerdictFollows();
        promise7AddWindow();
        promise7WhatAWindowDoes();
        promise8EndWindow();
        promise8EndedEarly();
        promise9Pass();
        promise9OneAfterTheOther();
        promise10Minute();
        due.end();
    }

    private static void promise1NewObject() {
        Probeweb mesh = new Probeweb();
        due.is("new: minute()", mesh.minute(), 0);
        due.is("new: alarms()", mesh.alarms(), 0);
        due.noIndex("new: setCut(0, true)", () -> Due.number(mesh.setCut(0, true)));
        due.noIndex("new: probes(0)", () -> mesh.probes(0));
        due.noIndex("new: isBad(0)", () -> Due.number(mesh.isBad(0)));
        due.noIndex("new: failing(0)", () -> mesh.failing(0));
        due.noIndex("new: verdict(0)", () -> mesh.verdict(0));
        due.noIndex("new: endWindow(0)", () -> mesh.endWindow(0));
        due.noIndex("new: alarmCheck(0)", () -> mesh.alarmCheck(0));
        Probeweb other = new Probeweb();
        other.addRegion(-1);
        other.pass(3);
        due.is("another object: minute()", mesh.minute(), 0);
        due.noIndex("another object: probes(0)", () -> mesh.probes(0));
    }

    private static void promise2AddRegion() {
        Probeweb mesh = new Probeweb();
        due.noIndex("addRegion(0), no region", () -> mesh.addRegion(0));
        due.noIndex("addRegion(-2)", () -> mesh.addRegion(-2));
        due.is("addRegion(-1)", mesh.addRegion(-1), 0);
        due.noIndex("addRegion(1), one region", () -> mesh.addRegion(1));
        due.is("addRegion(0)", mesh.addRegion(0), 1);
        due.noIndex("addRegion(max)", () -> mesh.addRegion(Integer.MAX_VALUE));
        due.noIndex("addRegion(min)", () -> mesh.addRegion(Integer.MIN_VALUE));
        for (int region = 2; region < 6; region++) {
            due.is("addRegion(1)", mesh.addRegion(1), region);
        }
        due.badState("addRegion(-1), 6 regions", () -> mesh.addRegion(-1));
        due.badState("addRegion(5), 6 regions", () -> mesh.addRegion(5));
        due.noIndex("addRegion(6), 6 regions", () -> mesh.addRegion(6));
        due.noIndex("addRegion(-2), 6 regions", () -> mesh.addRegion(-2));
        due.is("probes(5)", mesh.probes(5), 0);
        due.noIndex("probes(6)", () -> mesh.probes(6));
    }

    private static void promise2Paths() {
        Probeweb mesh = new Probeweb();
        mesh.addRegion(-1);
        mesh.addCheck(1, 0, 0, 1);
        mesh.setCut(0, true);
        due.is("addRegion(0) under a cut one", mesh.addRegion(0), 1);
        due.is("setCut(1, false), just added", mesh.setCut(1, false), false);
        mesh.addRegion(1);
        mesh.addRegion(-1);
        mesh.addRegion(3);
        due.is("failing(0), 0 cut over 1 over 2", mesh.failing(0), 0b00111);
        mesh.setCut(0, false);
        mesh.setCut(1, true);
        due.is("failing(0), 1 cut over 2", mesh.failing(0), 0b00110);
        mesh.setCut(4, true);
        due.is("failing(0), 4 cut under 3", mesh.failing(0), 0b10110);
    }

    private static void promise3AddCheck() {
        Probeweb mesh = new Probeweb();
        mesh.addRegion(-1);
        mesh.addRegion(-1);
        due.is("addCheck(4, 3, 1, 2)", mesh.addCheck(4, 3, 1, 2), 0);
        due.is("failing(0), just added", mesh.failing(0), 0);
        due.is("setDown(0, 0, false), just added", mesh.setDown(0, 0, false), false);
        mesh.addRegion(-1);
        due.is("setDown(0, 2, false), region added later", mesh.setDown(0, 2, false), false);
        due.is("nextProbe(0, 0): offset", mesh.nextProbe(0, 0), 3);
        due.is("nextProbe(0, 1): offset and region", mesh.nextProbe(0, 1), 4);
        mesh.pass(3);
        due.is("nextProbe(0, 0): interval", mesh.nextProbe(0, 0), 7);
        due.is("setQuorum(0, 1)", mesh.setQuorum(0, 1), 2);
        mesh.setDown(0, 0, true);
        mesh.pass(4);
        due.is("repetition(0, 0)", mesh.repetition(0, 0), 1);
        for (int check = 1; check < 8; check++) {
            due.is("addCheck(1, 0, 0, 1)", mesh.addCheck(1, 0, 0, 1), check);
        }
        due.badState("addCheck(1, 0, 0, 1), 8 checks", () -> mesh.addCheck(1, 0, 0, 1));
        due.badArgument("addCheck(0, 0, 0, 1), 8 checks", () -> mesh.addCheck(0, 0, 0, 1));
        due.badArgument("addCheck(1, 0, 0, 7), 8 checks", () -> mesh.addCheck(1, 0, 0, 7));
        due.is("verdict(7)", mesh.verdict(7), 0);
        due.noIndex("verdict(8)", () -> mesh.verdict(8));
    }

    private static void promise4SetDown() {
        Probeweb mesh = new Probeweb();
        mesh.addRegion(-1);
        mesh.addRegion(-1);
        mesh.addCheck(1, 0, 0, 1);
        mesh.addCheck(1, 0, 0, 1);
        due.is("setDown(0, 1, true)", mesh.setDown(0, 1, true), false);
        due.is("setDown(0, 1, true) again", mesh.setDown(0, 1, true), true);
        due.is("failing(0), down for 1", mesh.failing(0), 0b10);
        due.is("failing(1), another check", mesh.failing(1), 0);
        due.is("setDown(0, 0, false), another region", mesh.setDown(0, 0, false), false);
        due.is("setDown(1, 1, false), another check", mesh.setDown(1, 1, false), false);
        due.is("setDown(0, 1, false)", mesh.setDown(0, 1, false), true);
        due.is("setDown(0, 1, false) again", mesh.setDown(0, 1, false), false);
        due.is("failing(0), down nowhere", mesh.failing(0), 0);
        due.noIndex("setDown(2, 0, true)", () -> Due.number(mesh.setDown(2, 0, true)));
        due.noIndex("setDown(-1, 0, true)", () -> Due.number(mesh.setDown(-1, 0, true)));
        due.noIndex("setDown(0, 2, true)", () -> Due.number(mesh.setDown(0, 2, true)));
        due.noIndex("setDown(0, -1, true)", () -> Due.number(mesh.setDown(0, -1, true)));
        due.noIndex("setDown(8, 6, true)", () -> Due.number(mesh.setDown(8, 6, true)));
        mesh.addRegion(-1);
        due.is("setDown(0, 2, false), after it was refused", mesh.setDown(0, 2, false), false);
        due.is("vote(0, 1): it sets what probes find, not votes", mesh.vote(0, 1), 0);
    }

    private static void promise5SetCut() {
        Probeweb mesh = new Probeweb();
        mesh.addCheck(1, 0, 0, 1);
        due.noIndex("setCut(0, true), no region", () -> Due.number(mesh.setCut(0, true)));
        mesh.addRegion(-1);
        mesh.addRegion(0);
        mesh.addRegion(0);
        due.is("setCut(1, true)", mesh.setCut(1, true), false);
        due.is("setCut(1, true) again", mesh.setCut(1, true), true);
        due.is("failing(0): neither parent nor sibling", mesh.failing(0), 0b010);
        due.is("setCut(0, true)", mesh.setCut(0, true), false);
        due.is("setCut(2, false): under a cut one, not cut", mesh.setCut(2, false), false);
        due.is("failing(0): all below", mesh.failing(0), 0b111);
        due.is("setCut(0, false)", mesh.setCut(0, false), true);
        due.is("setCut(0, false) again", mesh.setCut(0, false), false);
        due.is("failing(0): 1 stays cut", mesh.failing(0), 0b010);
        due.noIndex("setCut(3, true)", () -> Due.number(mesh.setCut(3, true)));
        due.noIndex("setCut(-1, true)", () -> Due.number(mesh.setCut(-1, true)));
        due.noIndex("setCut(32, true)", () -> Due.number(mesh.setCut(32, true)));
        mesh.addRegion(-1);
        due.is("setCut(3, false), after it was refused", mesh.setCut(3, false), false);
    }

    private static void promise6SetQuorum() {
        Probeweb mesh = new Probeweb();
        mesh.addCheck(1, 0, 0, 3);
        mesh.addCheck(1, 0, 0, 5);
        due.is("setQuorum(0, 6)", mesh.setQuorum(0, 6), 3);
        due.badArgument("setQuorum(0, 0)", () -> mesh.setQuorum(0, 0));
        due.badArgument("setQuorum(0, 7)", () -> mesh.setQuorum(0, 7));
        due.badArgument("setQuorum(0, -1)", () -> mesh.setQuorum(0, -1));
        due.is("setQuorum(0, 1)", mesh.setQuorum(0, 1), 6);
        due.is("setQuorum(1, 2), another check", mesh.setQuorum(1, 2), 5);
        due.noIndex("setQuorum(2, 1)", () -> mesh.setQuorum(2, 1));
        due.noIndex("setQuorum(2, 7)", () -> mesh.setQuorum(2, 7));
        due.noIndex("setQuorum(-1, 0)", () -> mesh.setQuorum(-1, 0));
    }

    private static void promise6VerdictFollows() {
        Probeweb mesh = new Probeweb();
        mesh.addRegion(-1);
        mesh.addRegion(-1);
        mesh.addCheck(1, 0, 0, 2);
        mesh.setDown(0, 0, true);
        mesh.pass(2);
        due.is("verdict(0): 1 of 2 down, quorum 2", mesh.verdict(0), 1);
        mesh.setQuorum(0, 1);
        due.is("verdict(0): not yet", mesh.verdict(0), 1);
        due.is("hasAlarm(0): not yet", mesh.hasAlarm(0), false);
        due.is("pass(1)", mesh.pass(1), 1);
        due.is("verdict(0): quorum 1", mesh.verdict(0), 2);
        mesh.setQuorum(0, 3);
        due.is("verdict(0): still", mesh.verdict(0), 2);
        mesh.pass(1);
        due.is("verdict(0): quorum 3 of 2", mesh.verdict(0), 0);
    }

    private static void promise7AddWindow() {
        Probeweb mesh = new Probeweb();
        mesh.addCheck(1, 0, 0, 1);
        mesh.addCheck(1, 0, 0, 1);
        for (int window = 0; window < 12; window++) {
            due.is("addWindow", mesh.addWindow(window % 2, 5, 10), window);
            mesh.endWindow(window);
        }
        due.badState("addWindow(0, 5, 10), 12 ended ones", () -> mesh.addWindow(0, 5, 10));
        due.badArgument("addWindow(0, -1, 10), 12 windows", () -> mesh.addWindow(0, -1, 10));
        due.badArgument("addWindow(0, 5, 0), 12 windows", () -> mesh.addWindow(0, 5, 0));
        due.noIndex("addWindow(2, 5, 10), 12 windows", () -> mesh.addWindow(2, 5, 10));
        due.noIndex("endWindow(12)", () -> mesh.endWindow(12));
    }

    /** Check 0 has windows over the minutes 3 to 5 and 7: an alarm is raised in 6, or in 8. */
    private static void promise7WhatAWindowDoes() {
        Probeweb mesh = Meshes.simple(1, 1);
        mesh.addCheck(1, 0, 0, 1);
        due.is("addWindow(0, 3, 3)", mesh.addWindow(0, 3, 3), 0);
        due.is("addWindow(0, 7, 1)", mesh.addWindow(0, 7, 1), 1);
        mesh.pass(2);
        mesh.setDown(0, 0, true);
        due.is("pass(3): minutes 3 to 5", mesh.pass(3), 0);
        due.is("verdict(0): a window hides no verdict", mesh.verdict(0), 2);
        due.is("pass(1): minute 6", mesh.pass(1), 1);
        due.is("alarmRaised(0)", mesh.alarmRaised(0), 6);
        mesh.setDown(0, 0, false);
        mesh.pass(1);
        due.is("alarmClosed(0): a window stops no closing", mesh.alarmClosed(0), 7);

        Probeweb open = Meshes.simple(1, 1);
        open.addWindow(0, 2, 5);
        open.setDown(0, 0, true);
        open.pass(4);
        due.is("hasAlarm(0): raised before the window", open.hasAlarm(0), true);
        due.is("alarmClosed(0): open in the window", open.alarmClosed(0), -1);

        Probeweb two = Meshes.simple(1, 1);
        two.addRegion(-1);
        two.addCheck(1, 0, 0, 1);
        two.addCheck(1, 0, 0, 1);
        two.setDown(0, 0, true);
        two.setDown(1, 1, true);
        two.addWindow(1, 0, 10);
        two.addWindow(0, 0, 1);
        due.is("pass(9): just check 0", two.pass(9), 1);
        due.is("alarmCheck(0)", two.alarmCheck(0), 0);
        due.is("pass(2): check 1 after minute 9", two.pass(2), 1);
        due.is("alarmRaised(1)", two.alarmRaised(1), 10);
    }

    private static void promise8EndWindow() {
        Probeweb mesh = new Probeweb();
        mesh.addCheck(1, 0, 0, 1);
        mesh.addWindow(0, 0, 4);
        mesh.addWindow(0, 6, 3);
        mesh.addWindow(0, 9, 10000);
        mesh.addWindow(0, 12, 2);
        due.is("endWindow(3) before it begins", mesh.endWindow(3), 0);
        due.is("endWindow(0) in minute 0", mesh.endWindow(0), 1);
        mesh.pass(7);
        due.is("endWindow(0) again", mesh.endWindow(0), 1);
        due.is("endWindow(1) in its second minute", mesh.endWindow(1), 2);
        mesh.pass(93);
        due.is("endWindow(1) again", mesh.endWindow(1), 2);
        due.is("endWindow(2) in minute 100", mesh.endWindow(2), 92);
        due.is("endWindow(3) after its minutes, ended before", mesh.endWindow(3), 0);
        mesh.addWindow(0, 10, 20);
        mesh.addWindow(0, 100, 1);
        mesh.addWindow(0, 101, 1);
        due.is("endWindow(4): all past", mesh.endWindow(4), 20);
        due.is("endWindow(5): this minute", mesh.endWindow(5), 1);
        due.is("endWindow(6): the next minute", mesh.endWindow(6), 0);
        due.noIndex("endWindow(7)", () -> mesh.endWindow(7));
        due.noIndex("endWindow(-1)", () -> mesh.endWindow(-1));
    }

    private static void promise8EndedEarly() {
        Probeweb mesh = Meshes.simple(1, 1);
        mesh.setDown(0, 0, true);
        mesh.addWindow(0, 1, 100);
        mesh.addWindow(0, 6, 100);
        mesh.endWindow(1);
        due.is("pass(4) in the window", mesh.pass(4), 0);
        due.is("endWindow(0)", mesh.endWindow(0), 4);
        due.is("hasAlarm(0): not in this minute", mesh.hasAlarm(0), false);
        due.is("pass(1) after its end", mesh.pass(1), 1);
        due.is("alarmRaised(0)", mesh.alarmRaised(0), 5);
    }

    private static void promise9Pass() {
        Probeweb mesh = Meshes.simple(1, 1);
        mesh.addRegion(-1);
        mesh.addCheck(3, 0, 0, 1);
        mesh.setDown(0, 0, true);
        mesh.setDown(1, 1, true);
        due.badArgument("pass(0)", () -> mesh.pass(0));
        due.badArgument("pass(-1)", () -> mesh.pass(-1));
        due.badArgument("pass(201)", () -> mesh.pass(201));
        due.badArgument("pass(max)", () -> mesh.pass(Integer.MAX_VALUE));
        due.is("minute() after refused ones", mesh.minute(), 0);
        due.is("pass(1): check 1 is down in minute 1, check 0 too", mesh.pass(1), 2);
        due.is("pass(200): none more", mesh.pass(200), 0);
        due.is("minute()", mesh.minute(), 201);
        due.is("new mesh: pass(200), no region and no check", new Probeweb().pass(200), 0);
    }

    private static void promise9OneAfterTheOther() {
        Probeweb atOnce = smallMesh();
        Probeweb oneByOne = smallMesh();
        int raisedAtOnce = atOnce.pass(150);
        int raisedOneByOne = 0;
        for (int passed = 0; passed < 150; passed++) {
            raisedOneByOne += oneByOne.pass(1);
        }
        due.is("pass(150) and 150 times pass(1)", raisedAtOnce, raisedOneByOne);
        due.is("the meshes after them", Seen.of(atOnce, 3, 3), Seen.of(oneByOne, 3, 3));
        due.is("alarms() is what pass answered", atOnce.alarms(), raisedAtOnce);
    }

    private static void promise10Minute() {
        Probeweb mesh = new Probeweb();
        mesh.pass(1);
        due.is("minute() after pass(1)", mesh.minute(), 1);
        mesh.pass(199);
        due.is("minute() after pass(199)", mesh.minute(), 200);
        mesh.addRegion(-1);
        mesh.addCheck(1, 0, 0, 1);
        due.is("minute(): other calls take no time", mesh.minute(), 200);
        for (int call = 0; call < 400; call++) {
            mesh.pass(200);
        }
        due.is("minute() after 400 times pass(200)", mesh.minute(), 80200);
    }

    private static Probeweb smallMesh() {
        Probeweb mesh = new Probeweb();
        mesh.addRegion(-1);
        mesh.addRegion(0);
        mesh.addRegion(-1);
        mesh.addCheck(2, 0, 1, 2);
        mesh.addCheck(7, 20, 3, 1);
        mesh.addCheck(5, 3, 2, 1);
        mesh.setDown(0, 0, true);
        mesh.setDown(0, 2, true);
        mesh.setDown(2, 1, true);
        mesh.addWindow(2, 0, 30);
        return mesh;
    }
}
