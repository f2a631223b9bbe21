import java.util.Arrays;

/**
 * A lookup table for load balancing by preference permutations: servers with weights take turns to
 * claim slots, lookups hash a key to a slot, the disruption of each change is counted, loads are
 * ranked, hot keys are tracked approximately and can be pinned to a server.
 */
public final class PreferenceTable {
    /** No server. */
    public static final int NONE = -1;

    private static final int FIRST_SLOT_COUNT = 13;
    private static final int MOST_SLOTS = 61;
    private static final int[] SLOT_COUNTS = {
        5, 7, 11, 13, 17, 19, 23, 29, 31, 37, 41, 43, 47, 53, 59, 61
    };
    private static final int MOST_SERVERS = 10;
    private static final int HIGHEST_NAME = 9999;
    private static final int HIGHEST_WEIGHT = 16;
    private static final int HIGHEST_KEY = 99999;
    private static final int MOST_REQUESTS = 1000000;
    private static final int MOST_PINS = 6;
    private static final int MOST_ENTRIES = 8;
    private static final int MOST_CHANGES = 4;

    // All rows are made here once: no call but the constructor makes arrays or objects.
    private final Fleet fleet = new Fleet();
    private final Pins pins = new Pins();
    private final SlotTable table = new SlotTable(FIRST_SLOT_COUNT);
    private final Tracker tracker = new Tracker();
    private final History history = new History();

    /** Creates a table with 13 slots, without servers, pins and tracker entries. */
    public PreferenceTable() {
    }

    // ---- table

    /** Starts anew with another number of slots; returns the previous number of slots. */
    public int reset(int slots) throws IllegalArgumentException {
        if (!isSlotCount(slots)) {
            throw new IllegalArgumentException("slots is not a prime number from 5 to 61");
        }
        int previous = table.size();
        fleet.clear();
        pins.clear();
        tracker.clear();
        history.clear();
        table.startAnew(slots);
        return previous;
    }

    /** Returns what a slot contains: the number of a server, or NONE. */
    public int serverAt(int slot) throws IllegalArgumentException {
        if (!table.isSlot(slot)) {
            throw new IllegalArgumentException("there is no such slot");
        }
        return table.owner(slot);
    }

    /** Returns the disruption of the latest building of the table. */
    public int disruption() {
        return table.changedSlots();
    }

    /** Returns the forced disruption of the latest building of the table. */
    public int forcedDisruption() {
        return table.forcedSlots();
    }

    /** Returns the greatest quotient of slots and ideal share over all servers that are up. */
    public double imbalance() {
        double greatest = 0.0;
        for (int server = 0; server < MOST_SERVERS; server++) {
            double share = shareOf(server);
            if (share > 0.0) {
                double quotient = (double) table.ownedBy(server) / share;
                greatest = quotient > greatest ? quotient : greatest;
            }
        }
        return greatest;
    }

    // ---- servers

    /** Adds a server, which is up, and returns its number. This is a change. */
    public int addServer(int name, int weight)
            throws IllegalArgumentException, IllegalStateException {
        checkName(name);
        checkWeight(weight);
        if (fleet.find(name) != NONE) {
            throw new IllegalStateException("a server has this name already");
        }
        int server = fleet.lowestFree();
        if (server == NONE) {
            throw new IllegalStateException("there are 10 servers");
        }
        history.remember(fleet, pins);
        fleet.put(server, name, weight);
        table.rebuild(fleet);
        return server;
    }

    /** Removes a server and the pins to it, and returns its load. This is a change. */
    public long removeServer(int server) throws IllegalArgumentException {
        checkServer(server);
        long load = fleet.load(server);
        history.remember(fleet, pins);
        fleet.drop(server);
        pins.dropServer(server);
        table.rebuild(fleet);
        return load;
    }

    /** Sets the weight of a server and returns the previous one. This is a change. */
    public int setWeight(int server, int weight) throws IllegalArgumentException {
        checkServer(server);
        checkWeight(weight);
        int previous = fleet.weight(server);
        history.remember(fleet, pins);
        fleet.changeWeight(server, weight);
        table.rebuild(fleet);
        return previous;
    }

    /** Takes a server up or down; returns true if it was up before. This is always a change. */
    public boolean setUp(int server, boolean up) throws IllegalArgumentException {
        checkServer(server);
        boolean previous = fleet.isUp(server);
        history.remember(fleet, pins);
        fleet.changeUp(server, up);
        table.rebuild(fleet);
        return previous;
    }

    /** Returns the number of servers, up and down. */
    public int serverCount() {
        return fleet.size();
    }

    /** Returns the number of the server with a name; NONE if no server has this name. */
    public int serverNamed(int name) throws IllegalArgumentException {
        checkName(name);
        return fleet.find(name);
    }

    /** Returns the slot that is a preference of a server. */
    public int preference(int server, int index) throws IllegalArgumentException {
        checkServer(server);
        if (!table.isSlot(index)) {
            throw new IllegalArgumentException("index is out of range");
        }
        return table.preferredSlot(fleet.name(server), index);
    }

    /** Returns the number of slots that contain a server. */
    public int slotsOf(int server) throws IllegalArgumentException {
        checkServer(server);
        return table.ownedBy(server);
    }

    /** Returns the ideal share of a server. */
    public double idealShare(int server) throws IllegalArgumentException {
        checkServer(server);
        return shareOf(server);
    }

    /** Returns the number of slots that would contain something else without a server. */
    public int removalDisruption(int server) throws IllegalArgumentException {
        checkServer(server);
        return table.changedWithout(fleet, server);
    }

    // ---- lookups

    /** Returns the server of a key, or NONE. */
    public int serverOf(int key) throws IllegalArgumentException {
        checkKey(key);
        return lookUp(key);
    }

    /** Makes n requests with a key and returns the server of the key, or NONE. */
    public int request(int key, int n) throws IllegalArgumentException {
        checkKey(key);
        if (n < 1 || n > MOST_REQUESTS) {
            throw new IllegalArgumentException("n is out of range");
        }
        int server = lookUp(key);
        fleet.addLoad(server, n);
        tracker.count(key, n);
        return server;
    }

    /** Returns the load of a server. */
    public long loadOf(int server) throws IllegalArgumentException {
        checkServer(server);
        return fleet.load(server);
    }

    /** Returns the server at a place of the ranking, 0 being the first. */
    public int rankedServer(int place) throws IndexOutOfBoundsException {
        if (place < 0 || place >= fleet.upCount()) {
            throw new IndexOutOfBoundsException("there is no such place");
        }
        return fleet.ranked(place);
    }

    // ---- pins

    /** Pins a key to a server and returns the number of pinned keys. */
    public int pin(int key, int server) throws IllegalArgumentException, IllegalStateException {
        checkKey(key);
        checkServer(server);
        checkRoomForPin(key);
        pins.put(key, server);
        return pins.size();
    }

    /** Removes the pin of a key; returns its server, or NONE if it was not pinned. */
    public int unpin(int key) throws IllegalArgumentException {
        checkKey(key);
        int server = pins.server(key);
        pins.drop(key);
        return server;
    }

    /** Pins the hottest key to the last server of the ranking and returns that server. */
    public int pinHottest() throws IllegalStateException {
        if (tracker.size() == 0) {
            throw new IllegalStateException("the tracker has no entries");
        }
        int upCount = fleet.upCount();
        if (upCount == 0) {
            throw new IllegalStateException("no server is up");
        }
        int key = tracker.key(0);
        checkRoomForPin(key);
        int server = fleet.ranked(upCount - 1);
        pins.put(key, server);
        return server;
    }

    // ---- hot keys

    /** Returns the number of tracker entries. */
    public int trackedKeys() {
        return tracker.size();
    }

    /** Returns the key of a tracker entry. */
    public int hotKey(int entry) throws IndexOutOfBoundsException {
        checkEntry(entry);
        return tracker.key(entry);
    }

    /** Returns the count of a tracker entry. */
    public long hotCount(int entry) throws IndexOutOfBoundsException {
        checkEntry(entry);
        return tracker.counted(entry);
    }

    /** Returns the error of a tracker entry. */
    public long hotError(int entry) throws IndexOutOfBoundsException {
        checkEntry(entry);
        return tracker.error(entry);
    }

    // ---- history

    /** Undoes the latest change; returns the number of changes that can still be undone. */
    public int undo() throws IllegalStateException {
        if (history.size() == 0) {
            throw new IllegalStateException("there is no change to undo");
        }
        history.bringBack(fleet, pins);
        table.rebuild(fleet);
        return history.size();
    }

    // ---- what several calls need

    private static boolean isSlotCount(int slots) {
        for (int count : SLOT_COUNTS) {
            if (count == slots) {
                return true;
            }
        }
        return false;
    }

    private static void checkName(int name) {
        if (name < 1 || name > HIGHEST_NAME) {
            throw new IllegalArgumentException("name is out of range");
        }
    }

    private static void checkWeight(int weight) {
        if (weight < 1 || weight > HIGHEST_WEIGHT) {
            throw new IllegalArgumentException("weight is out of range");
        }
    }

    private static void checkKey(int key) {
        if (key < 0 || key > HIGHEST_KEY) {
            throw new IllegalArgumentException("key is out of range");
        }
    }

    private void checkServer(int server) {
        if (!fleet.has(server)) {
            throw new IllegalArgumentException("there is no such server");
        }
    }

    private void checkEntry(int entry) {
        if (!tracker.has(entry)) {
            throw new IndexOutOfBoundsException("there is no such entry");
        }
    }

    private void checkRoomForPin(int key) {
        if (pins.server(key) == NONE && pins.size() >= MOST_PINS) {
            throw new IllegalStateException("6 keys are pinned");
        }
    }

    private double shareOf(int server) {
        int sum = fleet.weightSum();
        if (sum <= 0 || !fleet.isUp(server)) {
            return 0.0;
        }
        return (double) (table.size() * fleet.weight(server)) / (double) sum;
    }

    private int lookUp(int key) {
        int pinned = pins.server(key);
        return fleet.isUp(pinned) ? pinned : table.owner(table.slotOfKey(key));
    }

    /** The remainder of a value that is not negative; the test keeps the division safe. */
    private static int remainder(long value, int divisor) {
        return divisor > 0 ? (int) (value % divisor) : 0;
    }

    /** The servers, each at the place of its number. */
    private static final class Fleet {
        // No server can have this name, so it marks a number that is free.
        private static final int FREE = 0;

        private final int[] names = new int[MOST_SERVERS];
        private final int[] weights = new int[MOST_SERVERS];
        private final boolean[] ups = new boolean[MOST_SERVERS];
        private final long[] loads = new long[MOST_SERVERS];

        void clear() {
            Arrays.fill(names, FREE);
        }

        void copyFrom(Fleet other) {
            for (int server = 0; server < MOST_SERVERS; server++) {
                names[server] = other.names[server];
                weights[server] = other.weights[server];
                ups[server] = other.ups[server];
                loads[server] = other.loads[server];
            }
        }

        private static boolean isNumber(int server) {
            return server >= 0 && server < MOST_SERVERS;
        }

        boolean has(int server) {
            return isNumber(server) && names[server] != FREE;
        }

        boolean isUp(int server) {
            return has(server) && ups[server];
        }

        int name(int server) {
            return has(server) ? names[server] : FREE;
        }

        int weight(int server) {
            return has(server) ? weights[server] : 0;
        }

        long load(int server) {
            return has(server) ? loads[server] : 0L;
        }

        void put(int server, int name, int weight) {
            if (isNumber(server)) {
                names[server] = name;
                weights[server] = weight;
                ups[server] = true;
                loads[server] = 0L;
            }
        }

        /** What else the number holds counts no more, and is overwritten by the next put. */
        void drop(int server) {
            if (isNumber(server)) {
                names[server] = FREE;
            }
        }

        void changeWeight(int server, int weight) {
            if (has(server)) {
                weights[server] = weight;
            }
        }

        void changeUp(int server, boolean up) {
            if (has(server)) {
                ups[server] = up;
            }
        }

        /** NONE is no server, so nothing is added for it. */
        void addLoad(int server, int n) {
            if (has(server)) {
                loads[server] += n;
            }
        }

        int size() {
            int count = 0;
            for (int server = 0; server < MOST_SERVERS; server++) {
                if (has(server)) {
                    count++;
                }
            }
            return count;
        }

        int upCount() {
            int count = 0;
            for (int server = 0; server < MOST_SERVERS; server++) {
                if (isUp(server)) {
                    count++;
                }
            }
            return count;
        }

        int find(int name) {
            for (int server = 0; server < MOST_SERVERS; server++) {
                if (names[server] == name) {
                    return server;
                }
            }
            return NONE;
        }

        int lowestFree() {
            return find(FREE);
        }

        int weightSum() {
            int sum = 0;
            for (int server = 0; server < MOST_SERVERS; server++) {
                if (isUp(server)) {
                    sum += weights[server];
                }
            }
            return sum;
        }

        /** The greatest weight of the servers that are up, but for one; 0 if there are none. */
        int greatestWeightWithout(int leftOut) {
            int greatest = 0;
            for (int server = 0; server < MOST_SERVERS; server++) {
                if (server != leftOut && isUp(server)) {
                    greatest = Math.max(greatest, weights[server]);
                }
            }
            return greatest;
        }

        int ranked(int place) {
            for (int server = 0; server < MOST_SERVERS; server++) {
                if (isUp(server) && countBefore(server) == place) {
                    return server;
                }
            }
            return NONE;
        }

        private int countBefore(int server) {
            int count = 0;
            for (int other = 0; other < MOST_SERVERS; other++) {
                if (isUp(other) && ranksBefore(other, server)) {
                    count++;
                }
            }
            return count;
        }

        /** Multiplies crosswise, because a division would not compare exactly. */
        private boolean ranksBefore(int one, int other) {
            long oneCrosswise = load(one) * weight(other);
            long otherCrosswise = load(other) * weight(one);
            return oneCrosswise > otherCrosswise
                    || (oneCrosswise == otherCrosswise && one < other);
        }
    }

    /** The pinned keys, in no order that shows outside. */
    private static final class Pins {
        private final int[] keys = new int[MOST_PINS];
        private final int[] servers = new int[MOST_PINS];
        private int size = 0;

        void clear() {
            size = 0;
        }

        void copyFrom(Pins other) {
            for (int i = 0; i < MOST_PINS; i++) {
                keys[i] = other.keys[i];
                servers[i] = other.servers[i];
            }
            size = other.size;
        }

        int size() {
            return size;
        }

        int server(int key) {
            for (int i = 0; i < size && i < MOST_PINS; i++) {
                if (keys[i] == key) {
                    return servers[i];
                }
            }
            return NONE;
        }

        void put(int key, int server) {
            drop(key);
            append(key, server);
        }

        void drop(int key) {
            int found = size;
            size = 0;
            for (int i = 0; i < found && i < MOST_PINS; i++) {
                if (keys[i] != key) {
                    append(keys[i], servers[i]);
                }
            }
        }

        void dropServer(int server) {
            int found = size;
            size = 0;
            for (int i = 0; i < found && i < MOST_PINS; i++) {
                if (servers[i] != server) {
                    append(keys[i], servers[i]);
                }
            }
        }

        private void append(int key, int server) {
            if (size >= 0 && size < MOST_PINS) {
                keys[size] = key;
                servers[size] = server;
                size++;
            }
        }
    }

    /** The slots, and what their latest building changed. */
    private static final class SlotTable {
        private int size;
        private int[] owners = new int[MOST_SLOTS];
        // A building is drawn here first: the old slots are still needed to count the disruption.
        private int[] draft = new int[MOST_SLOTS];
        private final int[] triedPreferences = new int[MOST_SERVERS];
        private int changedSlots;
        private int forcedSlots;

        SlotTable(int size) {
            startAnew(size);
        }

        void startAnew(int newSize) {
            size = Math.min(newSize, MOST_SLOTS);
            Arrays.fill(owners, NONE);
            changedSlots = 0;
            forcedSlots = 0;
        }

        int size() {
            return size;
        }

        boolean isSlot(int slot) {
            return slot >= 0 && slot < size;
        }

        int owner(int slot) {
            return isSlot(slot) ? owners[slot] : NONE;
        }

        int changedSlots() {
            return changedSlots;
        }

        int forcedSlots() {
            return forcedSlots;
        }

        int ownedBy(int server) {
            int count = 0;
            for (int slot = 0; slot < size; slot++) {
                if (owners[slot] == server) {
                    count++;
                }
            }
            return count;
        }

        int slotOfKey(int key) {
            return remainder((40503L * key + 12345L) % 65536L, size);
        }

        int preferredSlot(int name, int index) {
            int offset = remainder(31 * name + 7, size);
            int skip = remainder(17 * name + 3, size - 1) + 1;
            return remainder(offset + index * skip, size);
        }

        void rebuild(Fleet fleet) {
            draw(fleet, NONE);
            changedSlots = countChanged();
            forcedSlots = countForced(fleet);
            int[] old = owners;
            owners = draft;
            draft = old;
        }

        int changedWithout(Fleet fleet, int server) {
            draw(fleet, server);
            return countChanged();
        }

        private int countChanged() {
            int count = 0;
            for (int slot = 0; slot < size; slot++) {
                if (owners[slot] != draft[slot]) {
                    count++;
                }
            }
            return count;
        }

        /** NONE is never up, so it needs no test of its own. */
        private int countForced(Fleet fleet) {
            int count = 0;
            for (int slot = 0; slot < size; slot++) {
                if (!fleet.isUp(owners[slot])) {
                    count++;
                }
            }
            return count;
        }

        /** Draws the slots as they are built for all servers that are up, but for one. */
        private void draw(Fleet fleet, int leftOut) {
            Arrays.fill(draft, NONE);
            Arrays.fill(triedPreferences, 0);
            int greatest = fleet.greatestWeightWithout(leftOut);
            int free = greatest > 0 ? size : 0;
            // A server of the greatest weight has a turn in each round, so there are never more
            // rounds than slots.
            for (int round = 1; round <= size && free > 0; round++) {
                for (int server = 0; server < MOST_SERVERS && free > 0; server++) {
                    if (server != leftOut && fleet.isUp(server)
                            && hasTurn(round, fleet.weight(server), greatest)
                            && claim(server, fleet.name(server))) {
                        free--;
                    }
                }
            }
        }

        private static boolean hasTurn(int round, int weight, int greatest) {
            return greatest > 0 && round * weight / greatest > (round - 1) * weight / greatest;
        }

        /** Takes the first free preference; those tried in earlier turns can't be free again. */
        private boolean claim(int server, int name) {
            for (int index = triedPreferences[server]; index < size; index++) {
                int slot = preferredSlot(name, index);
                if (isSlot(slot) && draft[slot] == NONE) {
                    draft[slot] = server;
                    triedPreferences[server] = index + 1;
                    return true;
                }
            }
            return false;
        }
    }

    /** The tracker entries, always in the order in which they are listed. */
    private static final class Tracker {
        private final int[] keys = new int[MOST_ENTRIES];
        private final long[] counts = new long[MOST_ENTRIES];
        private final long[] errors = new long[MOST_ENTRIES];
        private int size = 0;

        void clear() {
            size = 0;
        }

        int size() {
            return size;
        }

        boolean has(int entry) {
            return entry >= 0 && entry < size && entry < MOST_ENTRIES;
        }

        int key(int entry) {
            return has(entry) ? keys[entry] : NONE;
        }

        long counted(int entry) {
            return has(entry) ? counts[entry] : 0L;
        }

        long error(int entry) {
            return has(entry) ? errors[entry] : 0L;
        }

        void count(int key, int n) {
            int entry = find(key);
            if (entry == NONE) {
                entry = size < MOST_ENTRIES ? append(key) : replaceLeast(key);
            }
            if (has(entry)) {
                counts[entry] += n;
                moveForward(entry);
            }
        }

        private int find(int key) {
            for (int entry = 0; entry < size; entry++) {
                if (keys[entry] == key) {
                    return entry;
                }
            }
            return NONE;
        }

        private int append(int key) {
            int entry = size;
            if (entry < 0 || entry >= MOST_ENTRIES) {
                return NONE;
            }
            keys[entry] = key;
            counts[entry] = 0L;
            errors[entry] = 0L;
            size++;
            return entry;
        }

        /** The new entry goes on from the count of the one that it replaces. */
        private int replaceLeast(int key) {
            int entry = least();
            if (has(entry)) {
                keys[entry] = key;
                errors[entry] = counts[entry];
            }
            return entry;
        }

        /** Of the entries with the least count, the one listed first has the lowest key. */
        private int least() {
            int entry = size - 1;
            while (entry > 0 && counted(entry - 1) == counted(entry)) {
                entry--;
            }
            return entry;
        }

        /** A count only grows, so its entry never has to move back in the list. */
        private void moveForward(int entry) {
            for (int i = entry; i > 0 && isListedBefore(i, i - 1); i--) {
                swap(i, i - 1);
            }
        }

        private boolean isListedBefore(int one, int other) {
            long oneCount = counted(one);
            long otherCount = counted(other);
            return oneCount > otherCount
                    || (oneCount == otherCount && key(one) < key(other));
        }

        private void swap(int one, int other) {
            if (has(one) && has(other)) {
                int key = keys[one];
                long count = counts[one];
                long error = errors[one];
                keys[one] = keys[other];
                counts[one] = counts[other];
                errors[one] = errors[other];
                keys[other] = key;
                counts[other] = count;
                errors[other] = error;
            }
        }
    }

    /** What an undo brings back; the slots follow from the servers. */
    private static final class Snapshot {
        private final Fleet fleet = new Fleet();
        private final Pins pins = new Pins();

        void take(Fleet currentFleet, Pins currentPins) {
            fleet.copyFrom(currentFleet);
            pins.copyFrom(currentPins);
        }

        void give(Fleet currentFleet, Pins currentPins) {
            currentFleet.copyFrom(fleet);
            currentPins.copyFrom(pins);
        }
    }

    /** The states before the latest changes, the newest first; the oldest is overwritten. */
    private static final class History {
        private final Snapshot[] snapshots = new Snapshot[MOST_CHANGES];
        private int size = 0;

        History() {
            for (int i = 0; i < MOST_CHANGES; i++) {
                snapshots[i] = new Snapshot();
            }
        }

        void clear() {
            size = 0;
        }

        int size() {
            return size;
        }

        void remember(Fleet fleet, Pins pins) {
            Snapshot oldest = snapshots[MOST_CHANGES - 1];
            for (int i = MOST_CHANGES - 1; i > 0; i--) {
                snapshots[i] = snapshots[i - 1];
            }
            snapshots[0] = oldest;
            if (oldest != null) {
                oldest.take(fleet, pins);
            }
            size = Math.min(size + 1, MOST_CHANGES);
        }

        void bringBack(Fleet fleet, Pins pins) {
            Snapshot newest = snapshots[0];
            if (newest != null) {
                newest.give(fleet, pins);
            }
            for (int i = 1; i < MOST_CHANGES; i++) {
                snapshots[i - 1] = snapshots[i];
            }
            snapshots[MOST_CHANGES - 1] = newest;
            size = Math.max(size - 1, 0);
        }
    }
}
