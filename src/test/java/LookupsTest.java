/**
 * Promises 17 to 20: serverOf, request, loadOf, rankedServer.
 *
 * <p>With 5 slots the slots of keys are, worked out by hand: key 0: 0; key 1: 3; key 3: 2;
 * key 8: 4; key 13: 1; key 99999: 0 (which int arithmetic would get wrong).
 */
public final class LookupsTest {
    public static void main(String[] args) {
        serverOf();
        serverOfAllSlots();
        serverOfWithoutServersUp();
        request();
        requestRefuses();
        requestWithoutServer();
        loadOf();
        rankedServer();
        rankingIsExact();
        rankingWithServersDown();
        Check.finish();
    }

    private static void serverOf() {
        PreferenceTable t = Tables.oneAndTwo();
        Check.is("serverOf(0)", t.serverOf(0), 1);
        Check.is("serverOf(13)", t.serverOf(13), 1);
        Check.is("serverOf(3)", t.serverOf(3), 0);
        Check.is("serverOf(1)", t.serverOf(1), 0);
        Check.is("serverOf(8)", t.serverOf(8), 1);
        Check.is("serverOf(99999)", t.serverOf(99999), 1);
        Check.badArgument("serverOf(-1)", () -> t.serverOf(-1));
        Check.badArgument("serverOf(100000)", () -> t.serverOf(100000));
        Check.badArgument("serverOf(least)", () -> t.serverOf(Integer.MIN_VALUE));
        Check.badArgument("serverOf(greatest)", () -> t.serverOf(Integer.MAX_VALUE));
        Check.is("serverOf counts nothing", t.trackedKeys() + t.loadOf(0) + t.loadOf(1), 0);
    }

    private static void serverOfAllSlots() {
        PreferenceTable t = new PreferenceTable();
        t.reset(61);
        for (int i = 0; i < 10; i++) {
            t.addServer(1000 + i, 1 + i);
        }
        for (int key = 0; key < 100000; key += 449) {
            long slot = (40503L * key + 12345L) % 65536L % 61L;
            Check.is("serverOf(" + key + ")", t.serverOf(key), t.serverAt((int) slot));
        }
    }

    private static void serverOfWithoutServersUp() {
        PreferenceTable t = new PreferenceTable();
        Check.is("serverOf(0) without servers", t.serverOf(0), PreferenceTable.NONE);
        t.addServer(1, 1);
        t.pin(5, 0);
        t.setUp(0, false);
        Check.is("serverOf(0) with all down", t.serverOf(0), PreferenceTable.NONE);
        Check.is("serverOf(5) pinned, with all down", t.serverOf(5), PreferenceTable.NONE);
        t.setUp(0, true);
        Check.is("serverOf(5) pinned, up again", t.serverOf(5), 0);
    }

    private static void request() {
        PreferenceTable t = Tables.oneAndTwo();
        Check.is("request(0, 1)", t.request(0, 1), 1);
        Check.is("request(99999, 1000000)", t.request(99999, 1000000), 1);
        Check.is("request(3, 5)", t.request(3, 5), 0);
        Check.is("loadOf(0)", t.loadOf(0), 5);
        Check.is("loadOf(1)", t.loadOf(1), 1000001);
        Check.isText("entries", Tables.entries(t), "99999:1000000:0 3:5:0 0:1:0");
        t.pin(3, 1);
        Check.is("request(3, 10) pinned", t.request(3, 10), 1);
        Check.is("loadOf(0) after the pin", t.loadOf(0), 5);
        Check.is("loadOf(1) after the pin", t.loadOf(1), 1000011);
        Check.is("a request is no change", t.undo(), 1);
    }

    private static void requestRefuses() {
        PreferenceTable t = Tables.oneAndTwo();
        Check.badArgument("request(-1, 1)", () -> t.request(-1, 1));
        Check.badArgument("request(100000, 1)", () -> t.request(100000, 1));
        Check.badArgument("request(0, 0)", () -> t.request(0, 0));
        Check.badArgument("request(0, -1)", () -> t.request(0, -1));
        Check.badArgument("request(0, 1000001)", () -> t.request(0, 1000001));
        Check.badArgument("request(0, least)", () -> t.request(0, Integer.MIN_VALUE));
        Check.badArgument("request(0, greatest)", () -> t.request(0, Integer.MAX_VALUE));
        Check.is("trackedKeys() after the refusals", t.trackedKeys(), 0);
        Check.is("loads after the refusals", t.loadOf(0) + t.loadOf(1), 0);
    }

    private static void requestWithoutServer() {
        PreferenceTable t = new PreferenceTable();
        Check.is("request(7, 3) without servers", t.request(7, 3), PreferenceTable.NONE);
        Check.isText("entries without servers", Tables.entries(t), "7:3:0");
        t.addServer(1, 1);
        Check.is("loadOf(0) of a later server", t.loadOf(0), 0);
        t.setUp(0, false);
        Check.is("request(7, 2) with all down", t.request(7, 2), PreferenceTable.NONE);
        Check.is("loadOf(0) while down", t.loadOf(0), 0);
        Check.isText("entries with all down", Tables.entries(t), "7:5:0");
    }

    private static void loadOf() {
        PreferenceTable t = Tables.oneAndTwo();
        for (int i = 0; i < 400; i++) {
            t.request(0, 1000000);
        }
        Check.is("loadOf(1)", t.loadOf(1), 400000000L);
        Check.is("loadOf(0)", t.loadOf(0), 0);
        t.setWeight(1, 5);
        t.setUp(1, false);
        Check.is("loadOf(1) while down", t.loadOf(1), 400000000L);
        t.removeServer(1);
        t.addServer(2, 2);
        Check.is("loadOf(1) of a new server", t.loadOf(1), 0);
    }

    private static void rankedServer() {
        PreferenceTable t = Tables.oneAndTwo();
        ranking(t, 0, 1);
        t.request(0, 2);
        ranking(t, 1, 0);
        t.request(3, 1);
        ranking(t, 0, 1);
        t.request(0, 1);
        ranking(t, 1, 0);
        t.setWeight(1, 4);
        ranking(t, 0, 1);
        Check.badIndex("rankedServer(-1)", () -> t.rankedServer(-1));
        Check.badIndex("rankedServer(2)", () -> t.rankedServer(2));
        Check.badIndex("rankedServer(least)", () -> t.rankedServer(Integer.MIN_VALUE));
        Check.badIndex("rankedServer(greatest)", () -> t.rankedServer(Integer.MAX_VALUE));
    }

    private static void ranking(PreferenceTable t, int... due) {
        for (int place = 0; place < due.length; place++) {
            Check.is("rankedServer(" + place + ")", t.rankedServer(place), due[place]);
        }
        Check.badIndex("rankedServer(" + due.length + ")", () -> t.rankedServer(due.length));
    }

    /** 1000000 / 3 and 333333 are equal as integers; the products of loads and weights are big. */
    private static void rankingIsExact() {
        PreferenceTable t = new PreferenceTable();
        t.addServer(1, 1);
        t.addServer(2, 3);
        t.pin(10, 0);
        t.pin(11, 1);
        t.request(10, 333333);
        t.request(11, 1000000);
        ranking(t, 1, 0);
        t.request(10, 1);
        ranking(t, 0, 1);
        t.setWeight(0, 15);
        t.setWeight(1, 16);
        for (int i = 0; i < 200; i++) {
            t.request(10, 1000000);
            t.request(11, 1000000);
        }
        // 200333334 / 15 is more than 201000000 / 16.
        ranking(t, 0, 1);
    }

    private static void rankingWithServersDown() {
        PreferenceTable t = new PreferenceTable();
        for (int i = 0; i < 5; i++) {
            t.addServer(20 + i, 1 + i);
        }
        t.pin(1, 3);
        t.pin(2, 1);
        t.request(1, 8);
        t.request(2, 4);
        ranking(t, 1, 3, 0, 2, 4);
        t.setUp(3, false);
        t.setUp(0, false);
        ranking(t, 1, 2, 4);
        t.setUp(3, true);
        ranking(t, 1, 3, 2, 4);
        for (int i = 0; i < 5; i++) {
            t.setUp(i, false);
        }
        ranking(t);
    }
}
