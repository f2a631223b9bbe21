/** Calls that only answer leave the table as it was, whatever it contains. */
public final class QueriesTest {
    public static void main(String[] args) {
        for (Start start : Start.ALL) {
            withoutArguments(start);
            withANumber(start);
        }
        ofServers(Start.BUSY, 0, 1, 3);
        ofServers(Start.FULL, 0, 4, 9);
        ofServers(Start.ALL_DOWN, 0, 1);
        ofEntries(Start.BUSY, 3);
        ofEntries(Start.FULL, 8);
        ofEntries(Start.ALL_DOWN, 1);
        ranked(Start.BUSY, 2);
        ranked(Start.FULL, 9);
        Check.finish();
    }

    private static void withoutArguments(Start start) {
        start.keeps("disruption()", PreferenceTable::disruption);
        start.keeps("forcedDisruption()", PreferenceTable::forcedDisruption);
        start.keeps("imbalance()", PreferenceTable::imbalance);
        start.keeps("serverCount()", PreferenceTable::serverCount);
        start.keeps("trackedKeys()", PreferenceTable::trackedKeys);
    }

    private static void withANumber(Start start) {
        start.keeps("serverAt(0)", t -> t.serverAt(0));
        start.keeps("serverAt of the last", t -> t.serverAt(start.slots() - 1));
        for (int name : new int[] {1, 2, 500, 9999}) {
            start.keeps("serverNamed(" + name + ")", t -> t.serverNamed(name));
        }
        for (int key : new int[] {0, 3, 4, 77, 99999}) {
            start.keeps("serverOf(" + key + ")", t -> t.serverOf(key));
        }
        start.keeps("unpin(77), not pinned", t -> t.unpin(77));
    }

    private static void ofServers(Start start, int... servers) {
        for (int server : servers) {
            String of = "(" + server + ")";
            start.keeps("preference" + of, t -> t.preference(server, start.slots() - 1));
            start.keeps("slotsOf" + of, t -> t.slotsOf(server));
            start.keeps("idealShare" + of, t -> t.idealShare(server));
            start.keeps("removalDisruption" + of, t -> t.removalDisruption(server));
            start.keeps("loadOf" + of, t -> t.loadOf(server));
        }
    }

    private static void ofEntries(Start start, int entries) {
        for (int number = 0; number < entries; number++) {
            int entry = number;
            start.keeps("hotKey(" + entry + ")", t -> t.hotKey(entry));
            start.keeps("hotCount(" + entry + ")", t -> t.hotCount(entry));
            start.keeps("hotError(" + entry + ")", t -> t.hotError(entry));
        }
    }

    private static void ranked(Start start, int serversUp) {
        for (int number = 0; number < serversUp; number++) {
            int place = number;
            start.keeps("rankedServer(" + place + ")", t -> t.rankedServer(place));
        }
    }
}
