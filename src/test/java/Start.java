import java.util.function.Consumer;
import java.util.function.Supplier;

/**
 * A table to begin with, of which any number of twins can be made: what a call leaves behind is
 * compared with a twin on which the call was not made. The numbers in noServers are no servers.
 */
record Start(String name, int slots, Supplier<PreferenceTable> maker, int... noServers) {
    private static final int LEAST = Integer.MIN_VALUE;
    private static final int GREATEST = Integer.MAX_VALUE;

    static final Start FRESH = new Start("new object", 13, PreferenceTable::new,
            0, -1, 9, 10, LEAST, GREATEST);
    static final Start BUSY = new Start("busy", 5, Start::busy,
            2, 4, -1, 9, 10, LEAST, GREATEST);
    static final Start FULL = new Start("full", 11, Start::full,
            -1, 10, 11, LEAST, GREATEST);
    static final Start ALL_DOWN = new Start("all down", 7, Start::allDown,
            2, -1, 10, LEAST, GREATEST);
    static final Start[] ALL = {FRESH, BUSY, FULL, ALL_DOWN};

    PreferenceTable make() {
        return maker.get();
    }

    /** The call throws what is due, and changes nothing. */
    void refuses(String call, Class<?> due, Consumer<PreferenceTable> refused) {
        keeps("the refused " + call,
                t -> Check.throwsExactly(name + ": " + call, due, () -> refused.accept(t)));
    }

    /** The call changes nothing. */
    void keeps(String call, Consumer<PreferenceTable> made) {
        for (Portrait kind : Portrait.values()) {
            PreferenceTable touched = make();
            made.accept(touched);
            Check.isText(name + ": after " + call, kind.of(touched), kind.of(make()));
        }
    }

    /** Servers 0 and 1 up, 2 removed, 3 down; two pins, three entries, four changes to undo. */
    private static PreferenceTable busy() {
        PreferenceTable t = Tables.oneAndTwo();
        t.addServer(3, 4);
        t.request(8, 6);
        t.addServer(4, 5);
        t.pin(4, 1);
        t.removeServer(2);
        t.request(1, 7);
        t.pin(7, 3);
        t.setUp(3, false);
        t.request(4, 9);
        return t;
    }

    /** Ten servers, 9 down; six pins, eight entries, the hottest key 50 not pinned. */
    private static PreferenceTable full() {
        PreferenceTable t = new PreferenceTable();
        t.reset(11);
        for (int name = 1; name <= 9; name++) {
            t.addServer(name, name);
        }
        t.addServer(9999, 16);
        for (int key = 0; key < 6; key++) {
            t.pin(key, 9 - key);
        }
        t.request(50, 30);
        for (int key = 1; key <= 7; key++) {
            t.request(key, 2 * key);
        }
        t.setUp(9, false);
        t.setWeight(0, 16);
        return t;
    }

    /** Servers 0 and 1, both down; one pin, one entry, four changes to undo. */
    private static PreferenceTable allDown() {
        PreferenceTable t = new PreferenceTable();
        t.reset(7);
        t.addServer(1, 3);
        t.addServer(2, 4);
        t.pin(3, 1);
        t.request(5, 8);
        t.setUp(0, false);
        t.setUp(1, false);
        return t;
    }
}
