/** Tables that several tests begin with, and texts of what a table contains. */
final class Tables {
    private Tables() {
    }

    static PreferenceTable withFiveSlots() {
        PreferenceTable t = new PreferenceTable();
        t.reset(5);
        return t;
    }

    /** Servers 0 (name 1, weight 1) and 1 (name 2, weight 2) on the slots 1 1 0 0 1. */
    static PreferenceTable oneAndTwo() {
        PreferenceTable t = withFiveSlots();
        t.addServer(1, 1);
        t.addServer(2, 2);
        return t;
    }

    /** What the slots contain, from slot 0 on, separated by blanks. */
    static String slots(PreferenceTable table, int slotCount) {
        StringBuilder text = new StringBuilder();
        for (int slot = 0; slot < slotCount; slot++) {
            text.append(slot == 0 ? "" : " ").append(table.serverAt(slot));
        }
        return text.toString();
    }

    /** The tracker's list, each entry as key:count:error. */
    static String entries(PreferenceTable table) {
        StringBuilder text = new StringBuilder();
        for (int entry = 0; entry < table.trackedKeys(); entry++) {
            text.append(entry == 0 ? "" : " ").append(table.hotKey(entry)).append(':')
                    .append(table.hotCount(entry)).append(':').append(table.hotError(entry));
        }
        return text.toString();
    }
}
