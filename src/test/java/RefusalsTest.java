/**
 * "Methods throw an exception for wrong arguments or in the wrong state; a call that throws an
 * exception changes nothing. If several exceptions apply, the first one that the method names is
 * thrown."
 *
 * <p>Each refused call is made on a table, and all that the table shows then is compared with a
 * twin on which the call was not made. One method here for each promise that has a 'Throws' line.
 */
public final class RefusalsTest {
    private static final Class<?> BAD_ARGUMENT = IllegalArgumentException.class;
    private static final Class<?> BAD_STATE = IllegalStateException.class;
    private static final Class<?> BAD_INDEX = IndexOutOfBoundsException.class;
    private static final int LEAST = Integer.MIN_VALUE;
    private static final int GREATEST = Integer.MAX_VALUE;
    private static final int[] NO_KEYS = {-1, 100000, LEAST, GREATEST};
    private static final int[] NO_WEIGHTS = {0, 17, -1, LEAST, GREATEST};
    private static final int[] NO_NAMES = {0, 10000, -1, LEAST, GREATEST};

    public static void main(String[] args) {
        reset();
        serverAt();
        addServer();
        addServerNamesItsExceptionsInOrder();
        callsWithAServer();
        setWeight();
        serverNamed();
        preference();
        serverOf();
        request();
        rankedServer();
        pin();
        pinNamesItsExceptionsInOrder();
        unpin();
        pinHottest();
        hotEntries();
        undo();
        Check.finish();
    }

    private static void reset() {
        int[] noSlotCounts = {LEAST, -5, -1, 0, 1, 2, 3, 4, 6, 9, 25, 49, 57, 60, 62, 67, GREATEST};
        for (Start start : Start.ALL) {
            for (int slots : noSlotCounts) {
                start.refuses("reset(" + slots + ")", BAD_ARGUMENT, t -> t.reset(slots));
            }
        }
    }

    private static void serverAt() {
        for (Start start : Start.ALL) {
            for (int slot : new int[] {-1, start.slots(), start.slots() + 1, 61, LEAST, GREATEST}) {
                start.refuses("serverAt(" + slot + ")", BAD_ARGUMENT, t -> t.serverAt(slot));
            }
        }
    }

    private static void addServer() {
        for (Start start : new Start[] {Start.FRESH, Start.BUSY}) {
            for (int name : NO_NAMES) {
                start.refuses("addServer(" + name + ", 1)", BAD_ARGUMENT,
                        t -> t.addServer(name, 1));
            }
            for (int weight : NO_WEIGHTS) {
                start.refuses("addServer(5, " + weight + ")", BAD_ARGUMENT,
                        t -> t.addServer(5, weight));
            }
        }
        Start.BUSY.refuses("addServer(1, 1), the name taken", BAD_STATE, t -> t.addServer(1, 1));
        Start.BUSY.refuses("addServer(4, 1), taken by one that is down", BAD_STATE,
                t -> t.addServer(4, 1));
        Start.FULL.refuses("addServer(500, 1), ten servers", BAD_STATE, t -> t.addServer(500, 1));
        Start.FULL.refuses("addServer(9999, 1), ten servers and taken", BAD_STATE,
                t -> t.addServer(9999, 1));
    }

    private static void addServerNamesItsExceptionsInOrder() {
        for (int weight : NO_WEIGHTS) {
            Start.BUSY.refuses("addServer(1, " + weight + "), the name taken", BAD_ARGUMENT,
                    t -> t.addServer(1, weight));
            Start.FULL.refuses("addServer(500, " + weight + "), ten servers", BAD_ARGUMENT,
                    t -> t.addServer(500, weight));
        }
        for (int name : NO_NAMES) {
            Start.FULL.refuses("addServer(" + name + ", 1), ten servers", BAD_ARGUMENT,
                    t -> t.addServer(name, 1));
        }
        Start.FULL.refuses("addServer(0, 0), ten servers", BAD_ARGUMENT, t -> t.addServer(0, 0));
    }

    /** Promises 8, 9, 10, 13, 14, 15, 16 and 19: no such server. */
    private static void callsWithAServer() {
        for (Start start : Start.ALL) {
            for (int server : start.noServers()) {
                String of = "(" + server + ")";
                start.refuses("removeServer" + of, BAD_ARGUMENT, t -> t.removeServer(server));
                start.refuses("setWeight" + of, BAD_ARGUMENT, t -> t.setWeight(server, 9));
                start.refuses("setUp to true" + of, BAD_ARGUMENT, t -> t.setUp(server, true));
                start.refuses("setUp to false" + of, BAD_ARGUMENT, t -> t.setUp(server, false));
                start.refuses("preference" + of, BAD_ARGUMENT, t -> t.preference(server, 0));
                start.refuses("slotsOf" + of, BAD_ARGUMENT, t -> t.slotsOf(server));
                start.refuses("idealShare" + of, BAD_ARGUMENT, t -> t.idealShare(server));
                start.refuses("removalDisruption" + of, BAD_ARGUMENT,
                        t -> t.removalDisruption(server));
                start.refuses("loadOf" + of, BAD_ARGUMENT, t -> t.loadOf(server));
            }
        }
    }

    private static void setWeight() {
        for (int weight : NO_WEIGHTS) {
            for (int server : new int[] {0, 1, 3, 2, -1, 10}) {
                Start.BUSY.refuses("setWeight(" + server + ", " + weight + ")", BAD_ARGUMENT,
                        t -> t.setWeight(server, weight));
            }
            Start.FULL.refuses("setWeight(9, " + weight + ")", BAD_ARGUMENT,
                    t -> t.setWeight(9, weight));
        }
    }

    private static void serverNamed() {
        for (Start start : Start.ALL) {
            for (int name : NO_NAMES) {
                start.refuses("serverNamed(" + name + ")", BAD_ARGUMENT, t -> t.serverNamed(name));
            }
        }
    }

    private static void preference() {
        for (Start start : new Start[] {Start.BUSY, Start.FULL, Start.ALL_DOWN}) {
            for (int index : new int[] {-1, start.slots(), 61, LEAST, GREATEST}) {
                start.refuses("preference(0, " + index + ")", BAD_ARGUMENT,
                        t -> t.preference(0, index));
                start.refuses("preference(10, " + index + ")", BAD_ARGUMENT,
                        t -> t.preference(10, index));
            }
        }
    }

    private static void serverOf() {
        for (Start start : Start.ALL) {
            for (int key : NO_KEYS) {
                start.refuses("serverOf(" + key + ")", BAD_ARGUMENT, t -> t.serverOf(key));
            }
        }
    }

    private static void request() {
        for (Start start : Start.ALL) {
            for (int key : NO_KEYS) {
                start.refuses("request(" + key + ", 1)", BAD_ARGUMENT, t -> t.request(key, 1));
                start.refuses("request(" + key + ", 0)", BAD_ARGUMENT, t -> t.request(key, 0));
            }
            for (int n : new int[] {0, -1, 1000001, LEAST, GREATEST}) {
                start.refuses("request(5, " + n + ")", BAD_ARGUMENT, t -> t.request(5, n));
            }
        }
    }

    private static void rankedServer() {
        placesEndAt(Start.FRESH, 0);
        placesEndAt(Start.BUSY, 2);
        placesEndAt(Start.FULL, 9);
        placesEndAt(Start.ALL_DOWN, 0);
    }

    private static void placesEndAt(Start start, int serversUp) {
        for (int place : new int[] {-1, serversUp, serversUp + 1, 10, LEAST, GREATEST}) {
            start.refuses("rankedServer(" + place + ")", BAD_INDEX, t -> t.rankedServer(place));
        }
    }

    private static void pin() {
        for (int key : NO_KEYS) {
            Start.BUSY.refuses("pin(" + key + ", 0)", BAD_ARGUMENT, t -> t.pin(key, 0));
        }
        for (Start start : Start.ALL) {
            for (int server : start.noServers()) {
                start.refuses("pin(50, " + server + ")", BAD_ARGUMENT, t -> t.pin(50, server));
                start.refuses("pin(4, " + server + ")", BAD_ARGUMENT, t -> t.pin(4, server));
            }
        }
        Start.FULL.refuses("pin(50, 0), six keys pinned", BAD_STATE, t -> t.pin(50, 0));
        Start.FULL.refuses("pin(6, 9), six keys pinned", BAD_STATE, t -> t.pin(6, 9));
    }

    private static void pinNamesItsExceptionsInOrder() {
        for (int key : NO_KEYS) {
            Start.FULL.refuses("pin(" + key + ", 0), six keys pinned", BAD_ARGUMENT,
                    t -> t.pin(key, 0));
        }
        Start.FULL.refuses("pin(50, 10), six keys pinned", BAD_ARGUMENT, t -> t.pin(50, 10));
        Start.FULL.refuses("pin(50, -1), six keys pinned", BAD_ARGUMENT, t -> t.pin(50, -1));
    }

    private static void unpin() {
        for (Start start : Start.ALL) {
            for (int key : NO_KEYS) {
                start.refuses("unpin(" + key + ")", BAD_ARGUMENT, t -> t.unpin(key));
            }
        }
    }

    private static void pinHottest() {
        Start withoutEntries = new Start("no entries", 5, Tables::oneAndTwo);
        Start withoutServers = new Start("no servers", 13, () -> {
            PreferenceTable t = new PreferenceTable();
            t.request(3, 1);
            return t;
        });
        Start.FRESH.refuses("pinHottest(), no entries, no server", BAD_STATE,
                PreferenceTable::pinHottest);
        withoutEntries.refuses("pinHottest()", BAD_STATE, PreferenceTable::pinHottest);
        withoutServers.refuses("pinHottest()", BAD_STATE, PreferenceTable::pinHottest);
        Start.ALL_DOWN.refuses("pinHottest(), no server up", BAD_STATE,
                PreferenceTable::pinHottest);
        Start.FULL.refuses("pinHottest(), six keys pinned", BAD_STATE, PreferenceTable::pinHottest);
    }

    private static void hotEntries() {
        entriesEndAt(Start.FRESH, 0);
        entriesEndAt(Start.ALL_DOWN, 1);
        entriesEndAt(Start.BUSY, 3);
        entriesEndAt(Start.FULL, 8);
    }

    private static void entriesEndAt(Start start, int entries) {
        for (int entry : new int[] {-1, entries, entries + 1, 8, LEAST, GREATEST}) {
            start.refuses("hotKey(" + entry + ")", BAD_INDEX, t -> t.hotKey(entry));
            start.refuses("hotCount(" + entry + ")", BAD_INDEX, t -> t.hotCount(entry));
            start.refuses("hotError(" + entry + ")", BAD_INDEX, t -> t.hotError(entry));
        }
    }

    private static void undo() {
        Start afterReset = new Start("after reset", 7, () -> {
            PreferenceTable t = Start.FULL.make();
            t.reset(7);
            return t;
        });
        Start allUndone = new Start("four changes undone", 11, () -> {
            PreferenceTable t = Start.FULL.make();
            t.undo();
            t.undo();
            t.undo();
            t.undo();
            return t;
        });
        Start.FRESH.refuses("undo()", BAD_STATE, PreferenceTable::undo);
        afterReset.refuses("undo()", BAD_STATE, PreferenceTable::undo);
        allUndone.refuses("undo()", BAD_STATE, PreferenceTable::undo);
    }
}
