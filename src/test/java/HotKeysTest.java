/** Promises 24 to 27: trackedKeys, hotKey, hotCount, hotError. */
public final class HotKeysTest {
    public static void main(String[] args) {
        entriesAreListedByCountAndKey();
        eightEntriesAtMost();
        theLeastCountWithTheLowestKeyIsReplaced();
        aReplacedKeyComesBack();
        longCounts();
        noSuchEntry();
        changesLeaveTheTrackerAlone();
        Check.finish();
    }

    private static void entriesAreListedByCountAndKey() {
        PreferenceTable t = new PreferenceTable();
        t.request(50, 3);
        t.request(40, 3);
        t.request(60, 3);
        Check.isText("equal counts", Tables.entries(t), "40:3:0 50:3:0 60:3:0");
        t.request(60, 1);
        Check.isText("the last key grows", Tables.entries(t), "60:4:0 40:3:0 50:3:0");
        t.request(50, 1);
        Check.isText("a tie for the first", Tables.entries(t), "50:4:0 60:4:0 40:3:0");
        t.request(40, 9);
        Check.isText("from last to first", Tables.entries(t), "40:12:0 50:4:0 60:4:0");
        t.request(0, 1);
        Check.isText("a small one", Tables.entries(t), "40:12:0 50:4:0 60:4:0 0:1:0");
        Check.is("trackedKeys()", t.trackedKeys(), 4);
    }

    private static PreferenceTable withEightEntries() {
        PreferenceTable t = new PreferenceTable();
        for (int i = 0; i < 8; i++) {
            Check.is("trackedKeys()", t.trackedKeys(), i);
            t.request(10 + i, 20 - 2 * i);
        }
        return t;
    }

    private static void eightEntriesAtMost() {
        PreferenceTable t = withEightEntries();
        Check.isText("eight entries", Tables.entries(t),
                "10:20:0 11:18:0 12:16:0 13:14:0 14:12:0 15:10:0 16:8:0 17:6:0");
        t.request(30, 1);
        Check.isText("the last one is replaced", Tables.entries(t),
                "10:20:0 11:18:0 12:16:0 13:14:0 14:12:0 15:10:0 16:8:0 30:7:6");
        t.request(31, 5);
        Check.isText("a replaced one is replaced", Tables.entries(t),
                "10:20:0 11:18:0 12:16:0 13:14:0 14:12:0 31:12:7 15:10:0 16:8:0");
        t.request(9, 4);
        Check.isText("the new key is the lowest of equal counts", Tables.entries(t),
                "10:20:0 11:18:0 12:16:0 13:14:0 9:12:8 14:12:0 31:12:7 15:10:0");
        t.request(31, 1);
        Check.isText("the error stays", Tables.entries(t),
                "10:20:0 11:18:0 12:16:0 13:14:0 31:13:7 9:12:8 14:12:0 15:10:0");
        Check.is("trackedKeys()", t.trackedKeys(), 8);
    }

    private static void theLeastCountWithTheLowestKeyIsReplaced() {
        PreferenceTable t = new PreferenceTable();
        for (int key = 8; key >= 1; key--) {
            t.request(key, key > 4 ? 5 : 2);
        }
        t.request(100, 1);
        Check.isText("key 1 is replaced", Tables.entries(t),
                "5:5:0 6:5:0 7:5:0 8:5:0 100:3:2 2:2:0 3:2:0 4:2:0");
        t.request(0, 3);
        Check.isText("key 2 is replaced", Tables.entries(t),
                "0:5:2 5:5:0 6:5:0 7:5:0 8:5:0 100:3:2 3:2:0 4:2:0");
        t.request(101, 1000000);
        Check.isText("key 3 is replaced", Tables.entries(t),
                "101:1000002:2 0:5:2 5:5:0 6:5:0 7:5:0 8:5:0 100:3:2 4:2:0");
        t.reset(13);
        for (int key = 20; key < 28; key++) {
            t.request(key, 1);
        }
        t.request(28, 1);
        Check.isText("all counts are equal", Tables.entries(t),
                "28:2:1 21:1:0 22:1:0 23:1:0 24:1:0 25:1:0 26:1:0 27:1:0");
    }

    private static void aReplacedKeyComesBack() {
        PreferenceTable t = withEightEntries();
        t.request(30, 1);
        t.request(17, 1);
        Check.isText("17 is back", Tables.entries(t),
                "10:20:0 11:18:0 12:16:0 13:14:0 14:12:0 15:10:0 16:8:0 17:8:7");
    }

    private static void longCounts() {
        PreferenceTable t = new PreferenceTable();
        for (int i = 0; i < 400; i++) {
            t.request(1, 1000000);
        }
        Check.is("hotCount(0)", t.hotCount(0), 400000000L);
        Check.is("hotError(0)", t.hotError(0), 0);
        Check.is("hotKey(0)", t.hotKey(0), 1);
    }

    private static void noSuchEntry() {
        PreferenceTable t = new PreferenceTable();
        refusesEntries(t, 0, -1);
        t.request(99999, 2);
        t.request(0, 1);
        refusesEntries(t, 2, -1, 3, 8, Integer.MIN_VALUE, Integer.MAX_VALUE);
        Check.isText("two entries", Tables.entries(t), "99999:2:0 0:1:0");
        refusesEntries(withEightEntries(), 8, -1);
    }

    private static void refusesEntries(PreferenceTable t, int... entries) {
        for (int entry : entries) {
            Check.badIndex("hotKey(" + entry + ")", () -> t.hotKey(entry));
            Check.badIndex("hotCount(" + entry + ")", () -> t.hotCount(entry));
            Check.badIndex("hotError(" + entry + ")", () -> t.hotError(entry));
        }
    }

    private static void changesLeaveTheTrackerAlone() {
        PreferenceTable t = new PreferenceTable();
        t.request(1, 5);
        t.addServer(1, 1);
        t.request(2, 6);
        t.setWeight(0, 2);
        t.pin(2, 0);
        t.unpin(2);
        t.removeServer(0);
        Check.isText("after changes", Tables.entries(t), "2:6:0 1:5:0");
        t.undo();
        t.undo();
        t.undo();
        Check.isText("after undoing them", Tables.entries(t), "2:6:0 1:5:0");
    }
}
