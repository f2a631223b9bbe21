/** Promise 28: undo. */
public final class HistoryTest {
    public static void main(String[] args) {
        undoOfEachKindOfChange();
        fourChangesAtMost();
        changesBehindAnUndo();
        loadsComeBack();
        pinsComeBack();
        refusedCallsAreNoChanges();
        undoRefuses();
        Check.finish();
    }

    private static void undoOfEachKindOfChange() {
        PreferenceTable t = Tables.withFiveSlots();
        t.addServer(1, 1);
        t.addServer(2, 2);
        t.setWeight(0, 2);
        Check.isText("slots with weight 2", Tables.slots(t, 5), "0 1 0 0 1");
        t.setUp(1, false);
        t.removeServer(0);
        Check.isText("slots without servers up", Tables.slots(t, 5), "-1 -1 -1 -1 -1");
        Check.is("undo() of removeServer", t.undo(), 3);
        Check.isText("slots with 0 again", Tables.slots(t, 5), "0 0 0 0 0");
        Check.is("disruption()", t.disruption(), 5);
        Check.is("forcedDisruption()", t.forcedDisruption(), 5);
        Check.is("serverNamed(1)", t.serverNamed(1), 0);
        Check.is("undo() of setUp", t.undo(), 2);
        Check.isText("slots with 1 up", Tables.slots(t, 5), "0 1 0 0 1");
        Check.is("undo() of setWeight", t.undo(), 1);
        Check.isText("slots with weight 1", Tables.slots(t, 5), "1 1 0 0 1");
        Check.is("disruption()", t.disruption(), 1);
        Check.is("forcedDisruption()", t.forcedDisruption(), 0);
        Check.is("undo() of addServer", t.undo(), 0);
        Check.isText("slots with 0 alone", Tables.slots(t, 5), "0 0 0 0 0");
        Check.is("disruption()", t.disruption(), 3);
        Check.is("forcedDisruption()", t.forcedDisruption(), 3);
        Check.badArgument("loadOf(1)", () -> t.loadOf(1));
        Check.badState("undo() of the fifth", t::undo);
        Check.is("serverCount()", t.serverCount(), 1);
    }

    private static void fourChangesAtMost() {
        PreferenceTable t = new PreferenceTable();
        for (int name = 1; name <= 9; name++) {
            t.addServer(name, name);
        }
        for (int left = 3; left >= 0; left--) {
            Check.is("undo()", t.undo(), left);
            Check.is("serverCount()", t.serverCount(), 5 + left);
        }
        Check.badState("undo() of the fifth", t::undo);
        Check.is("serverCount()", t.serverCount(), 5);
        Check.is("serverNamed(5)", t.serverNamed(5), 4);
        Check.is("serverNamed(6)", t.serverNamed(6), PreferenceTable.NONE);
    }

    private static void changesBehindAnUndo() {
        PreferenceTable t = new PreferenceTable();
        t.addServer(1, 1);
        t.setWeight(0, 2);
        t.setWeight(0, 3);
        t.undo();
        t.setWeight(0, 4);
        Check.is("setWeight(0, 5)", t.setWeight(0, 5), 4);
        Check.is("undo()", t.undo(), 3);
        Check.is("undo()", t.undo(), 2);
        Check.is("setWeight(0, 6)", t.setWeight(0, 6), 2);
        Check.is("undo()", t.undo(), 2);
        Check.is("undo()", t.undo(), 1);
        Check.is("setWeight(0, 7)", t.setWeight(0, 7), 1);
    }

    private static void loadsComeBack() {
        PreferenceTable t = new PreferenceTable();
        t.addServer(1, 1);
        t.request(5, 10);
        t.addServer(2, 1);
        t.pin(5, 0);
        t.request(5, 100);
        t.setUp(1, true);
        t.request(5, 1000);
        Check.is("loadOf(0)", t.loadOf(0), 1110);
        t.undo();
        Check.is("loadOf(0) before setUp", t.loadOf(0), 110);
        t.undo();
        Check.is("loadOf(0) before addServer", t.loadOf(0), 10);
        Check.isText("the tracker goes on", Tables.entries(t), "5:1110:0");
        t.undo();
        Check.is("addServer(1, 1) once more", t.addServer(1, 1), 0);
        Check.is("loadOf(0) of a new server", t.loadOf(0), 0);
    }

    private static void pinsComeBack() {
        PreferenceTable t = new PreferenceTable();
        t.addServer(1, 1);
        t.addServer(2, 1);
        t.pin(1, 0);
        t.pin(2, 1);
        t.removeServer(1);
        t.unpin(1);
        t.pin(3, 0);
        t.pin(4, 0);
        Check.is("undo() of removeServer", t.undo(), 2);
        Check.is("unpin(3), pinned later", t.unpin(3), PreferenceTable.NONE);
        Check.is("unpin(4), pinned later", t.unpin(4), PreferenceTable.NONE);
        Check.is("pin(9, 0) beside the two", t.pin(9, 0), 3);
        Check.is("unpin(1), unpinned later", t.unpin(1), 0);
        Check.is("unpin(2), removed with its server", t.unpin(2), 1);
        t.setWeight(0, 3);
        t.unpin(9);
        t.undo();
        Check.is("unpin(9), unpinned later", t.unpin(9), 0);
    }

    private static void refusedCallsAreNoChanges() {
        PreferenceTable t = new PreferenceTable();
        t.addServer(1, 1);
        Check.badState("addServer(1, 1)", () -> t.addServer(1, 1));
        Check.badArgument("removeServer(1)", () -> t.removeServer(1));
        Check.badArgument("setWeight(0, 17)", () -> t.setWeight(0, 17));
        Check.badArgument("setUp(1, true)", () -> t.setUp(1, true));
        Check.badArgument("reset(8)", () -> t.reset(8));
        Check.is("undo()", t.undo(), 0);
        Check.is("serverCount()", t.serverCount(), 0);
    }

    private static void undoRefuses() {
        PreferenceTable t = Tables.withFiveSlots();
        Check.badState("undo() without changes", t::undo);
        t.addServer(1, 1);
        t.undo();
        Check.is("disruption() of the undoing", t.disruption(), 5);
        Check.badState("undo() twice", t::undo);
        Check.is("disruption() after a refused undo", t.disruption(), 5);
        t.addServer(1, 1);
        t.reset(5);
        Check.badState("undo() after reset", t::undo);
    }
}
