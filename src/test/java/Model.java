import java.math.BigInteger;
import java.util.ArrayDeque;
import java.util.ArrayList;
import java.util.Arrays;
import java.util.Comparator;
import java.util.List;
import java.util.Map;
import java.util.TreeMap;

/**
 * The document once more, written for plainness with the whole Java library, as a second opinion
 * for ModelTest. It shares no code and no data structure with PreferenceTable.
 */
final class Model {
    private record Server(int name, int weight, boolean up, long load) {
    }

    private record Entry(int key, long count, long error) {
    }

    private record State(TreeMap<Integer, Server> servers, TreeMap<Integer, Integer> pins) {
        State copy() {
            return new State(new TreeMap<>(servers), new TreeMap<>(pins));
        }
    }

    private static final int NONE = -1;

    private int m = 13;
    private State state = new State(new TreeMap<>(), new TreeMap<>());
    private int[] slots = noSlots();
    private List<Entry> entries = new ArrayList<>();
    private final ArrayDeque<State> history = new ArrayDeque<>();
    private int disruption = 0;
    private int forced = 0;

    private int[] noSlots() {
        int[] none = new int[m];
        Arrays.fill(none, NONE);
        return none;
    }

    private static void argument(boolean right) {
        if (!right) {
            throw new IllegalArgumentException();
        }
    }

    private static void state(boolean right) {
        if (!right) {
            throw new IllegalStateException();
        }
    }

    private static boolean in(int value, int low, int high) {
        return low <= value && value <= high;
    }

    private Server known(int server) {
        argument(state.servers.containsKey(server));
        return state.servers.get(server);
    }

    private int preferred(int name, int j) {
        int offset = (31 * name + 7) % m;
        int skip = (17 * name + 3) % (m - 1) + 1;
        return (offset + j * skip) % m;
    }

    private int[] built(Map<Integer, Server> servers) {
        int[] result = noSlots();
        int greatest = 0;
        for (Server s : servers.values()) {
            greatest = s.up ? Math.max(greatest, s.weight) : greatest;
        }
        if (greatest == 0) {
            return result;
        }
        int taken = 0;
        for (int r = 1; taken < m; r++) {
            for (Map.Entry<Integer, Server> each : servers.entrySet()) {
                Server s = each.getValue();
                if (taken == m || !s.up || r * s.weight / greatest <= (r - 1) * s.weight / greatest) {
                    continue;
                }
                int j = 0;
                while (result[preferred(s.name, j)] != NONE) {
                    j++;
                }
                result[preferred(s.name, j)] = each.getKey();
                taken++;
            }
        }
        return result;
    }

    private static int differences(int[] one, int[] other) {
        int count = 0;
        for (int i = 0; i < one.length; i++) {
            count += one[i] == other[i] ? 0 : 1;
        }
        return count;
    }

    private void build() {
        int[] before = slots;
        slots = built(state.servers);
        disruption = differences(before, slots);
        forced = 0;
        for (int owner : before) {
            boolean stays = owner != NONE && state.servers.containsKey(owner)
                    && state.servers.get(owner).up;
            forced += stays ? 0 : 1;
        }
    }

    private void beginChange() {
        history.addLast(state.copy());
        if (history.size() > 4) {
            history.removeFirst();
        }
    }

    int reset(int newSlots) {
        argument(in(newSlots, 5, 61) && BigInteger.valueOf(newSlots).isProbablePrime(50));
        int previous = m;
        m = newSlots;
        state = new State(new TreeMap<>(), new TreeMap<>());
        slots = noSlots();
        entries = new ArrayList<>();
        history.clear();
        disruption = 0;
        forced = 0;
        return previous;
    }

    int serverAt(int slot) {
        argument(in(slot, 0, m - 1));
        return slots[slot];
    }

    int disruption() {
        return disruption;
    }

    int forcedDisruption() {
        return forced;
    }

    double imbalance() {
        double greatest = 0.0;
        for (int server : ranking()) {
            greatest = Math.max(greatest, (double) slotsOf(server) / idealShare(server));
        }
        return greatest;
    }

    int addServer(int name, int weight) {
        argument(in(name, 1, 9999) && in(weight, 1, 16));
        state(serverNamed(name) == NONE && state.servers.size() < 10);
        beginChange();
        int number = 0;
        while (state.servers.containsKey(number)) {
            number++;
        }
        state.servers.put(number, new Server(name, weight, true, 0));
        build();
        return number;
    }

    long removeServer(int server) {
        long load = known(server).load;
        beginChange();
        state.servers.remove(server);
        state.pins.values().removeIf(pinned -> pinned == server);
        build();
        return load;
    }

    int setWeight(int server, int weight) {
        Server s = known(server);
        argument(in(weight, 1, 16));
        beginChange();
        state.servers.put(server, new Server(s.name, weight, s.up, s.load));
        build();
        return s.weight;
    }

    boolean setUp(int server, boolean up) {
        Server s = known(server);
        beginChange();
        state.servers.put(server, new Server(s.name, s.weight, up, s.load));
        build();
        return s.up;
    }

    int serverCount() {
        return state.servers.size();
    }

    int serverNamed(int name) {
        argument(in(name, 1, 9999));
        for (Map.Entry<Integer, Server> each : state.servers.entrySet()) {
            if (each.getValue().name == name) {
                return each.getKey();
            }
        }
        return NONE;
    }

    int preference(int server, int index) {
        Server s = known(server);
        argument(in(index, 0, m - 1));
        return preferred(s.name, index);
    }

    int slotsOf(int server) {
        known(server);
        return (int) Arrays.stream(slots).filter(owner -> owner == server).count();
    }

    double idealShare(int server) {
        Server s = known(server);
        int sum = state.servers.values().stream().filter(Server::up).mapToInt(Server::weight).sum();
        return s.up ? (double) (m * s.weight) / (double) sum : 0.0;
    }

    int removalDisruption(int server) {
        known(server);
        TreeMap<Integer, Server> others = new TreeMap<>(state.servers);
        others.remove(server);
        return differences(slots, built(others));
    }

    int serverOf(int key) {
        argument(in(key, 0, 99999));
        Integer pinned = state.pins.get(key);
        if (pinned != null && state.servers.get(pinned).up) {
            return pinned;
        }
        return slots[(int) ((40503L * key + 12345L) % 65536L % m)];
    }

    int request(int key, int n) {
        argument(in(key, 0, 99999) && in(n, 1, 1000000));
        int server = serverOf(key);
        if (server != NONE) {
            Server s = state.servers.get(server);
            state.servers.put(server, new Server(s.name, s.weight, s.up, s.load + n));
        }
        track(key, n);
        return server;
    }

    private void track(int key, int n) {
        Entry old = null;
        for (Entry e : entries) {
            old = e.key == key ? e : old;
        }
        if (old != null) {
            entries.remove(old);
            entries.add(new Entry(key, old.count + n, old.error));
        } else if (entries.size() < 8) {
            entries.add(new Entry(key, n, 0));
        } else {
            Entry least = entries.stream()
                    .min(Comparator.comparingLong(Entry::count).thenComparingInt(Entry::key)).get();
            entries.remove(least);
            entries.add(new Entry(key, least.count + n, least.count));
        }
        entries.sort(Comparator.comparingLong((Entry e) -> -e.count).thenComparingInt(Entry::key));
    }

    long loadOf(int server) {
        return known(server).load;
    }

    private List<Integer> ranking() {
        List<Integer> up = new ArrayList<>();
        state.servers.forEach((number, s) -> {
            if (s.up) {
                up.add(number);
            }
        });
        up.sort((a, b) -> {
            Server one = state.servers.get(a);
            Server other = state.servers.get(b);
            int quotients = BigInteger.valueOf(other.load).multiply(BigInteger.valueOf(one.weight))
                    .compareTo(BigInteger.valueOf(one.load)
                            .multiply(BigInteger.valueOf(other.weight)));
            return quotients != 0 ? quotients : Integer.compare(a, b);
        });
        return up;
    }

    int rankedServer(int place) {
        List<Integer> ranking = ranking();
        if (!in(place, 0, ranking.size() - 1)) {
            throw new IndexOutOfBoundsException();
        }
        return ranking.get(place);
    }

    int pin(int key, int server) {
        argument(in(key, 0, 99999));
        known(server);
        state(state.pins.containsKey(key) || state.pins.size() < 6);
        state.pins.put(key, server);
        return state.pins.size();
    }

    int unpin(int key) {
        argument(in(key, 0, 99999));
        Integer server = state.pins.remove(key);
        return server == null ? NONE : server;
    }

    int pinHottest() {
        List<Integer> ranking = ranking();
        state(!entries.isEmpty() && !ranking.isEmpty());
        int last = ranking.get(ranking.size() - 1);
        pin(entries.get(0).key, last);
        return last;
    }

    int trackedKeys() {
        return entries.size();
    }

    private Entry entry(int number) {
        if (!in(number, 0, entries.size() - 1)) {
            throw new IndexOutOfBoundsException();
        }
        return entries.get(number);
    }

    int hotKey(int entry) {
        return entry(entry).key;
    }

    long hotCount(int entry) {
        return entry(entry).count;
    }

    long hotError(int entry) {
        return entry(entry).error;
    }

    int undo() {
        state(!history.isEmpty());
        state = history.removeLast();
        build();
        return history.size();
    }
}
