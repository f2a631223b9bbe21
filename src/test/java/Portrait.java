import java.util.concurrent.Callable;

/**
 * Texts of all that a table shows. A kind may change the table to bring out what no call just
 * tells (pins, weights, what can be undone), so each kind wants a table of its own. With up to
 * 13 slots a kind takes fewer than 400 calls.
 */
enum Portrait {
    SHOWN, PINNED, SET, UNDONE;

    private static final int SERVERS = 10;
    private static final int MOST_SLOTS = 61;
    private static final int MOST_CHANGES = 4;
    private static final int[] NAMES = {1, 2, 3, 4, 5, 6, 7, 8, 9, 9999};
    private static final int[] KEYS = {0, 1, 2, 3, 4, 5, 6, 7, 8, 50, 51, 99999};

    String of(PreferenceTable t) {
        return switch (this) {
            case SHOWN -> shown(t);
            case PINNED -> pinned(t);
            case SET -> set(t);
            case UNDONE -> undone(t);
        };
    }

    private static String answer(Callable<Object> call) {
        try {
            return " " + call.call();
        } catch (Exception e) {
            return " " + e.getClass().getSimpleName();
        }
    }

    private static String shown(PreferenceTable t) {
        StringBuilder text = new StringBuilder(built(t)).append(servers(t)).append("; ranking");
        for (int place = 0; place < SERVERS; place++) {
            int asked = place;
            text.append(answer(() -> t.rankedServer(asked)));
        }
        return text.append("; entries ").append(Tables.entries(t)).toString();
    }

    private static String built(PreferenceTable t) {
        StringBuilder text = new StringBuilder("slots");
        String last = "";
        for (int slot = 0; slot <= MOST_SLOTS && !last.endsWith("Exception"); slot++) {
            int asked = slot;
            last = answer(() -> t.serverAt(asked));
            text.append(last);
        }
        return text.append("; disruption").append(answer(t::disruption))
                .append(" forced").append(answer(t::forcedDisruption))
                .append(" imbalance").append(answer(t::imbalance)).toString();
    }

    private static String servers(PreferenceTable t) {
        StringBuilder text = new StringBuilder("; servers").append(answer(t::serverCount));
        for (int name : NAMES) {
            text.append(answer(() -> t.serverNamed(name)));
        }
        for (int number = 0; number < SERVERS; number++) {
            int server = number;
            text.append("; ").append(server).append(answer(() -> t.slotsOf(server)))
                    .append(answer(() -> t.idealShare(server)))
                    .append(answer(() -> t.preference(server, 1)))
                    .append(answer(() -> t.removalDisruption(server)))
                    .append(answer(() -> t.loadOf(server)));
        }
        return text.toString();
    }

    private static String pinned(PreferenceTable t) {
        StringBuilder text = new StringBuilder("servers of keys").append(serversOfKeys(t));
        text.append("; pins");
        for (int key : KEYS) {
            text.append(answer(() -> t.unpin(key)));
        }
        return text.append("; pins that are left")
                .append(answer(() -> t.pin(0, t.rankedServer(0)) - 1)).toString();
    }

    private static String serversOfKeys(PreferenceTable t) {
        StringBuilder text = new StringBuilder();
        for (int key : KEYS) {
            text.append(answer(() -> t.serverOf(key)));
        }
        return text.toString();
    }

    private static String set(PreferenceTable t) {
        StringBuilder text = new StringBuilder("weight and up");
        for (int number = 0; number < SERVERS; number++) {
            int server = number;
            text.append("; ").append(server).append(answer(() -> t.setWeight(server, 3)))
                    .append(answer(() -> t.setUp(server, true)));
        }
        return text.append("; slots").append(answer(() -> t.reset(7))).toString();
    }

    private static String undone(PreferenceTable t) {
        StringBuilder text = new StringBuilder("undo");
        String last = "";
        for (int i = 0; i <= MOST_CHANGES && !last.endsWith("Exception"); i++) {
            last = answer(t::undo);
            text.append("; undo").append(last).append(' ').append(built(t)).append("; servers")
                    .append(answer(t::serverCount));
            for (int number = 0; number < SERVERS; number++) {
                int server = number;
                text.append(answer(() -> t.loadOf(server)));
            }
            text.append(serversOfKeys(t));
        }
        return text.append("; then ").append(pinned(t)).toString();
    }
}
