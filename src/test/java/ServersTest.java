/**
 * Promises 7 to 16: addServer, removeServer, setWeight, setUp, serverCount, serverNamed,
 * preference, slotsOf, idealShare, removalDisruption.
 */
public final class ServersTest {
    private static final int[] NO_SERVERS = {
        -1, 2, 9, 10, 11, Integer.MIN_VALUE, Integer.MAX_VALUE
    };

    public static void main(String[] args) {
        addServerGivesTheLowestNumber();
        addServerRefuses();
        addServerIsAChange();
        removeServer();
        removeServerRemovesPins();
        setWeight();
        setUp();
        serverCount();
        serverNamed();
        preference();
        slotsOf();
        idealShare();
        removalDisruption();
        unknownServersAreRefused();
        Check.finish();
    }

    private static void addServerGivesTheLowestNumber() {
        PreferenceTable t = new PreferenceTable();
        for (int i = 0; i < 10; i++) {
            Check.is("addServer " + i, t.addServer(9999 - i, 16), i);
        }
        t.removeServer(7);
        t.removeServer(3);
        Check.is("addServer into the gap", t.addServer(1, 1), 3);
        Check.is("addServer into the next gap", t.addServer(2, 1), 7);
        Check.is("rankedServer(9): new servers are up", t.rankedServer(9), 9);
        t.removeServer(0);
        Check.is("addServer with a freed name", t.addServer(9999, 1), 0);
    }

    private static void addServerRefuses() {
        PreferenceTable t = new PreferenceTable();
        Check.badArgument("addServer(0, 1)", () -> t.addServer(0, 1));
        Check.badArgument("addServer(-1, 1)", () -> t.addServer(-1, 1));
        Check.badArgument("addServer(10000, 1)", () -> t.addServer(10000, 1));
        Check.badArgument("addServer(1, 0)", () -> t.addServer(1, 0));
        Check.badArgument("addServer(1, -1)", () -> t.addServer(1, -1));
        Check.badArgument("addServer(1, 17)", () -> t.addServer(1, 17));
        Check.badArgument("addServer(least, 1)", () -> t.addServer(Integer.MIN_VALUE, 1));
        Check.badArgument("addServer(1, greatest)", () -> t.addServer(1, Integer.MAX_VALUE));
        Check.is("addServer(9999, 16)", t.addServer(9999, 16), 0);
        Check.is("addServer(1, 1)", t.addServer(1, 1), 1);
        Check.badState("a name twice", () -> t.addServer(9999, 1));
        Check.badArgument("a name twice and a wrong weight", () -> t.addServer(9999, 17));
        t.setUp(0, false);
        Check.badState("the name of a server that is down", () -> t.addServer(9999, 1));
        for (int name = 10; name < 18; name++) {
            t.addServer(name, 1);
        }
        Check.badState("an eleventh server", () -> t.addServer(20, 1));
        Check.badState("an eleventh server, its name taken", () -> t.addServer(10, 1));
        Check.badArgument("an eleventh server, name 0", () -> t.addServer(0, 1));
        Check.badArgument("an eleventh server, weight 0", () -> t.addServer(20, 0));
        Check.is("serverCount() after the refusals", t.serverCount(), 10);
    }

    private static void addServerIsAChange() {
        PreferenceTable t = Tables.oneAndTwo();
        t.request(0, 7);
        Check.is("addServer(3, 1)", t.addServer(3, 1), 2);
        Check.is("loadOf a new server", t.loadOf(2), 0);
        Check.is("loadOf an old server", t.loadOf(1), 7);
        Check.is("undo() of addServer", t.undo(), 2);
        Check.is("serverCount() after undo", t.serverCount(), 2);
        Check.is("serverNamed(3) after undo", t.serverNamed(3), PreferenceTable.NONE);
        Check.badState("addServer of a taken name", () -> t.addServer(2, 1));
        Check.is("undo() after a refused addServer", t.undo(), 1);
    }

    private static void removeServer() {
        PreferenceTable t = Tables.oneAndTwo();
        Check.is("request(0, 1000000)", t.request(0, 1000000), 1);
        t.request(0, 3);
        Check.is("removeServer(1)", t.removeServer(1), 1000003);
        Check.isText("slots without server 1", Tables.slots(t, 5), "0 0 0 0 0");
        Check.badArgument("removeServer(1) again", () -> t.removeServer(1));
        Check.badArgument("loadOf(1) of a removed server", () -> t.loadOf(1));
        Check.is("serverNamed(2) of a removed server", t.serverNamed(2), PreferenceTable.NONE);
        Check.is("serverCount()", t.serverCount(), 1);
        Check.is("undo()", t.undo(), 2);
        Check.is("loadOf(1) after undo", t.loadOf(1), 1000003);
        Check.is("addServer again", t.addServer(7, 1), 2);
        Check.is("removeServer(0)", t.removeServer(0), 0);
        Check.is("addServer with the freed number", t.addServer(1, 4), 0);
    }

    private static void removeServerRemovesPins() {
        PreferenceTable t = Tables.oneAndTwo();
        t.pin(10, 0);
        t.pin(11, 1);
        t.pin(12, 0);
        t.pin(13, 1);
        t.removeServer(0);
        Check.is("unpin(10)", t.unpin(10), PreferenceTable.NONE);
        Check.is("unpin(12)", t.unpin(12), PreferenceTable.NONE);
        Check.is("pin(14, 1)", t.pin(14, 1), 3);
        Check.is("unpin(11)", t.unpin(11), 1);
        Check.is("unpin(13)", t.unpin(13), 1);
        t.pin(0, 1);
        t.removeServer(1);
        t.addServer(2, 1);
        t.addServer(1, 1);
        Check.is("a new server does not take over a pin", t.unpin(0), PreferenceTable.NONE);
        removeServerKeepsOtherPins();
    }

    private static void removeServerKeepsOtherPins() {
        PreferenceTable t = Tables.oneAndTwo();
        t.pin(20, 1);
        t.pin(21, 0);
        t.pin(22, 1);
        t.unpin(22);
        t.removeServer(0);
        Check.is("pin(23, 1) beside the one kept", t.pin(23, 1), 2);
        Check.is("unpin(22), unpinned before", t.unpin(22), PreferenceTable.NONE);
        Check.is("unpin(20)", t.unpin(20), 1);
    }

    private static void setWeight() {
        PreferenceTable t = Tables.oneAndTwo();
        t.request(0, 5);
        Check.is("setWeight(0, 2)", t.setWeight(0, 2), 1);
        Check.isText("slots of equal weights", Tables.slots(t, 5), "0 1 0 0 1");
        Check.is("setWeight(0, 16)", t.setWeight(0, 16), 2);
        Check.is("setWeight(0, 1)", t.setWeight(0, 1), 16);
        Check.isText("slots of weights 1 and 2", Tables.slots(t, 5), "1 1 0 0 1");
        Check.badArgument("setWeight(0, 0)", () -> t.setWeight(0, 0));
        Check.badArgument("setWeight(0, 17)", () -> t.setWeight(0, 17));
        Check.badArgument("setWeight(0, -1)", () -> t.setWeight(0, -1));
        Check.badArgument("setWeight(2, 17)", () -> t.setWeight(2, 17));
        Check.is("loadOf(1) after setWeight", t.loadOf(1), 5);
        Check.is("setWeight(0, 1): the same one", t.setWeight(0, 1), 1);
        Check.is("undo() of the same weight", t.undo(), 3);
        Check.is("undo()", t.undo(), 2);
        Check.is("setWeight(0, 3) after undo", t.setWeight(0, 3), 16);
        t.setUp(1, false);
        Check.is("setWeight of a server that is down", t.setWeight(1, 9), 2);
        Check.is("it stays down", t.slotsOf(1), 0);
        Check.is("setWeight of it again", t.setWeight(1, 9), 9);
    }

    private static void setUp() {
        PreferenceTable t = Tables.oneAndTwo();
        t.pin(1, 1);
        t.request(1, 4);
        isTrue("setUp(1, true) of a server that is up", t.setUp(1, true), true);
        isTrue("setUp(1, false)", t.setUp(1, false), true);
        Check.isText("slots with 1 down", Tables.slots(t, 5), "0 0 0 0 0");
        Check.is("serverCount() with 1 down", t.serverCount(), 2);
        Check.is("loadOf(1) with 1 down", t.loadOf(1), 4);
        isTrue("setUp(1, false) again", t.setUp(1, false), false);
        isTrue("setUp(1, true)", t.setUp(1, true), false);
        Check.isText("slots with 1 up", Tables.slots(t, 5), "1 1 0 0 1");
        Check.is("the pin is still there", t.serverOf(1), 1);
        Check.is("undo() of up", t.undo(), 3);
        Check.is("undo() of down again", t.undo(), 2);
        Check.is("slotsOf(1) still down", t.slotsOf(1), 0);
        Check.is("undo() of down", t.undo(), 1);
        Check.is("slotsOf(1) up", t.slotsOf(1), 3);
        Check.is("undo() of up while up", t.undo(), 0);
    }

    private static void isTrue(String call, boolean got, boolean due) {
        Check.is(call + " (1 is true)", got ? 1 : 0, due ? 1 : 0);
    }

    private static void serverCount() {
        PreferenceTable t = new PreferenceTable();
        Check.is("serverCount()", t.serverCount(), 0);
        t.addServer(5, 5);
        t.addServer(6, 5);
        Check.is("serverCount()", t.serverCount(), 2);
        t.setUp(0, false);
        t.setUp(1, false);
        Check.is("serverCount() with all down", t.serverCount(), 2);
        t.removeServer(0);
        Check.is("serverCount() with one removed", t.serverCount(), 1);
        t.undo();
        Check.is("serverCount() after undo", t.serverCount(), 2);
    }

    private static void serverNamed() {
        PreferenceTable t = new PreferenceTable();
        t.addServer(1, 1);
        t.addServer(9999, 1);
        Check.is("serverNamed(1)", t.serverNamed(1), 0);
        Check.is("serverNamed(9999)", t.serverNamed(9999), 1);
        Check.is("serverNamed(2)", t.serverNamed(2), PreferenceTable.NONE);
        t.setUp(1, false);
        Check.is("serverNamed(9999) that is down", t.serverNamed(9999), 1);
        Check.badArgument("serverNamed(0)", () -> t.serverNamed(0));
        Check.badArgument("serverNamed(-1)", () -> t.serverNamed(-1));
        Check.badArgument("serverNamed(10000)", () -> t.serverNamed(10000));
        Check.badArgument("serverNamed(least)", () -> t.serverNamed(Integer.MIN_VALUE));
        Check.badArgument("serverNamed(greatest)", () -> t.serverNamed(Integer.MAX_VALUE));
    }

    private static void preference() {
        PreferenceTable t = Tables.oneAndTwo();
        t.addServer(4, 1);
        preferences(t, 0, 3, 4, 0, 1, 2);
        preferences(t, 1, 4, 1, 3, 0, 2);
        preferences(t, 2, 1, 0, 4, 3, 2);
        t.setUp(0, false);
        preferences(t, 0, 3, 4, 0, 1, 2);
        Check.badArgument("preference(0, -1)", () -> t.preference(0, -1));
        Check.badArgument("preference(0, 5)", () -> t.preference(0, 5));
        Check.badArgument("preference(0, least)", () -> t.preference(0, Integer.MIN_VALUE));
        Check.badArgument("preference(0, greatest)", () -> t.preference(0, Integer.MAX_VALUE));
        Check.badArgument("preference(3, 0)", () -> t.preference(3, 0));
        t.reset(61);
        t.addServer(9999, 1);
        // 31 * 9999 + 7 = 309976 = 61 * 5081 + 35; 17 * 9999 + 3 = 169986 = 60 * 2833 + 6.
        Check.is("preference(0, 0) of 9999", t.preference(0, 0), 35);
        Check.is("preference(0, 1) of 9999", t.preference(0, 1), 42);
        Check.is("preference(0, 60) of 9999", t.preference(0, 60), 28);
        Check.badArgument("preference(0, 61)", () -> t.preference(0, 61));
    }

    private static void preferences(PreferenceTable t, int server, int... due) {
        for (int index = 0; index < due.length; index++) {
            Check.is("preference(" + server + ", " + index + ")",
                    t.preference(server, index), due[index]);
        }
    }

    private static void slotsOf() {
        PreferenceTable t = Tables.oneAndTwo();
        Check.is("slotsOf(0)", t.slotsOf(0), 2);
        Check.is("slotsOf(1)", t.slotsOf(1), 3);
        t.setUp(1, false);
        Check.is("slotsOf(0) with 1 down", t.slotsOf(0), 5);
        Check.is("slotsOf(1) with 1 down", t.slotsOf(1), 0);
    }

    private static void idealShare() {
        PreferenceTable t = Tables.oneAndTwo();
        Check.isDouble("idealShare(0)", t.idealShare(0), 5.0 / 3.0);
        Check.isDouble("idealShare(1)", t.idealShare(1), 10.0 / 3.0);
        t.setUp(1, false);
        Check.isDouble("idealShare(0) with 1 down", t.idealShare(0), 5.0);
        Check.isDouble("idealShare(1) with 1 down", t.idealShare(1), 0.0);
        t.setUp(0, false);
        Check.isDouble("idealShare(0) with all down", t.idealShare(0), 0.0);
        t.reset(61);
        for (int i = 0; i < 10; i++) {
            t.addServer(1 + i, 16 - i);
        }
        Check.isDouble("idealShare(2) of ten", t.idealShare(2), 854.0 / 115.0);
    }

    private static void removalDisruption() {
        PreferenceTable t = Tables.oneAndTwo();
        Check.is("removalDisruption(0)", t.removalDisruption(0), 2);
        Check.is("disruption() is as before", t.disruption(), 3);
        Check.is("removalDisruption(1)", t.removalDisruption(1), 3);
        Check.is("forcedDisruption() is as before", t.forcedDisruption(), 0);
        Check.isText("slots are as before", Tables.slots(t, 5), "1 1 0 0 1");
        Check.is("undo() is as before", t.undo(), 1);
        Check.is("removalDisruption(0) of the only server", t.removalDisruption(0), 5);
        t.setUp(0, false);
        Check.is("removalDisruption(0) of a server that is down", t.removalDisruption(0), 0);
        foretellsEachRemoval();
    }

    private static void foretellsEachRemoval() {
        PreferenceTable t = new PreferenceTable();
        t.reset(61);
        for (int i = 0; i < 10; i++) {
            t.addServer(1 + 7 * i, 1 + i % 5);
        }
        Check.is("removalDisruption(4), more than slotsOf(4)", t.removalDisruption(4), 19);
        Check.is("slotsOf(4)", t.slotsOf(4), 11);
        for (int server = 0; server < 10; server++) {
            int foretold = t.removalDisruption(server);
            t.removeServer(server);
            Check.is("removalDisruption(" + server + ") of ten", foretold, t.disruption());
            t.undo();
        }
    }

    private static void unknownServersAreRefused() {
        PreferenceTable t = Tables.oneAndTwo();
        for (int server : NO_SERVERS) {
            String of = "(" + server + ")";
            Check.badArgument("removeServer" + of, () -> t.removeServer(server));
            Check.badArgument("setWeight" + of, () -> t.setWeight(server, 1));
            Check.badArgument("setUp" + of, () -> t.setUp(server, true));
            Check.badArgument("preference" + of, () -> t.preference(server, 0));
            Check.badArgument("slotsOf" + of, () -> t.slotsOf(server));
            Check.badArgument("idealShare" + of, () -> t.idealShare(server));
            Check.badArgument("removalDisruption" + of, () -> t.removalDisruption(server));
            Check.badArgument("loadOf" + of, () -> t.loadOf(server));
            Check.badArgument("pin" + of, () -> t.pin(1, server));
        }
        Check.isText("slots after the refusals", Tables.slots(t, 5), "1 1 0 0 1");
        Check.is("undo() after the refusals", t.undo(), 1);
    }
}
