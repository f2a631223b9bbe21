import java.util.Random;
import java.util.concurrent.Callable;

/** Long runs of calls on PreferenceTable and on Model, which must give the same answers. */
public final class ModelTest {
    private static final int RUNS = 3000;
    private static final int CALLS = 512;
    private static final int MOST_COMPLAINTS = 20;
    private static final int[] SLOT_COUNTS = {
        5, 7, 11, 13, 17, 19, 23, 29, 31, 37, 41, 43, 47, 53, 59, 61
    };
    private static final int[] EDGES = {
        Integer.MIN_VALUE, -100000, -2, -1, 0, 1, 4, 5, 6, 7, 8, 9, 10, 11, 16, 17, 61, 62, 67, 9999,
        10000, 99999, 100000, 1000000, 1000001, Integer.MAX_VALUE
    };

    private final Random random;
    private final PreferenceTable table = new PreferenceTable();
    private final Model model = new Model();
    private final int run;
    // Some runs stay with few changes, some with few keys, so that all parts get deep.
    private final int keys;
    private final int greatestN;
    private final int changesInTen;
    private int calls = 0;

    private ModelTest(int run) {
        this.run = run;
        random = new Random(run);
        keys = new int[] {3, 9, 14, 100, 100000}[random.nextInt(5)];
        greatestN = new int[] {1, 3, 20, 1000000}[random.nextInt(4)];
        changesInTen = 1 + random.nextInt(5);
    }

    public static void main(String[] args) {
        for (int run = 0; run < RUNS && Check.wrongSoFar() < MOST_COMPLAINTS; run++) {
            new ModelTest(run).go();
        }
        Check.finish();
    }

    private void go() {
        if (random.nextInt(3) > 0) {
            int slots = SLOT_COUNTS[random.nextInt(SLOT_COUNTS.length)];
            same("reset(" + slots + ")", () -> table.reset(slots), () -> model.reset(slots));
        }
        while (calls < CALLS && Check.wrongSoFar() < MOST_COMPLAINTS) {
            if (random.nextInt(10) < changesInTen) {
                change();
            } else {
                query(random.nextInt(26));
            }
        }
    }

    private void same(String call, Callable<Object> got, Callable<Object> due) {
        // What an object answers after that many calls is free.
        if (calls == CALLS) {
            return;
        }
        calls++;
        String gotText = answer(got);
        String dueText = answer(due);
        Check.judge(gotText.equals(dueText),
                "run " + run + ": " + call + " answered " + gotText + ", the model " + dueText);
    }

    private static String answer(Callable<Object> call) {
        try {
            return call.call().toString();
        } catch (Exception e) {
            return "throws " + e.getClass().getName();
        }
    }

    private int mostly(int low, int high) {
        return random.nextInt(25) == 0
                ? EDGES[random.nextInt(EDGES.length)]
                : low + random.nextInt(high - low + 1);
    }

    private int server() {
        return mostly(0, Math.min(9, model.serverCount()));
    }

    private int key() {
        return mostly(0, keys - 1);
    }

    private void change() {
        int server = server();
        int weight = mostly(1, 16);
        switch (random.nextInt(12)) {
            case 0, 1, 2, 3 -> {
                int name = random.nextBoolean() ? mostly(1, 15) : mostly(1, 9999);
                same("addServer(" + name + ", " + weight + ")",
                        () -> table.addServer(name, weight), () -> model.addServer(name, weight));
            }
            case 4, 5 -> same("removeServer(" + server + ")",
                    () -> table.removeServer(server), () -> model.removeServer(server));
            case 6, 7 -> same("setWeight(" + server + ", " + weight + ")",
                    () -> table.setWeight(server, weight), () -> model.setWeight(server, weight));
            case 8, 9, 10 -> {
                boolean up = random.nextInt(3) > 0;
                same("setUp(" + server + ", " + up + ")",
                        () -> table.setUp(server, up), () -> model.setUp(server, up));
            }
            default -> same("undo()", table::undo, model::undo);
        }
        same("disruption()", table::disruption, model::disruption);
        same("forcedDisruption()", table::forcedDisruption, model::forcedDisruption);
    }

    private void query(int kind) {
        switch (kind) {
            case 0, 1, 2, 3, 4, 5, 6 -> requestOrLookUp();
            case 7, 8, 9 -> pinOrUnpin();
            case 10, 11, 12, 13 -> hotEntry(mostly(0, 8));
            case 14, 15, 16 -> ofServer(server());
            case 17, 18 -> {
                int slot = mostly(0, 60);
                same("serverAt(" + slot + ")",
                        () -> table.serverAt(slot), () -> model.serverAt(slot));
            }
            case 19, 20, 21 -> {
                int place = mostly(0, 9);
                same("rankedServer(" + place + ")",
                        () -> table.rankedServer(place), () -> model.rankedServer(place));
            }
            case 22 -> same("imbalance()", table::imbalance, model::imbalance);
            case 23 -> same("serverCount()", table::serverCount, model::serverCount);
            case 24 -> {
                int name = mostly(1, 15);
                same("serverNamed(" + name + ")",
                        () -> table.serverNamed(name), () -> model.serverNamed(name));
            }
            default -> seldomReset();
        }
    }

    private void requestOrLookUp() {
        int key = key();
        if (random.nextInt(4) > 0) {
            int n = mostly(1, greatestN);
            same("request(" + key + ", " + n + ")",
                    () -> table.request(key, n), () -> model.request(key, n));
        } else {
            same("serverOf(" + key + ")", () -> table.serverOf(key), () -> model.serverOf(key));
        }
    }

    private void pinOrUnpin() {
        int key = key();
        int server = server();
        switch (random.nextInt(8)) {
            case 0 -> same("pinHottest()", table::pinHottest, model::pinHottest);
            case 1, 2 -> same("unpin(" + key + ")",
                    () -> table.unpin(key), () -> model.unpin(key));
            default -> same("pin(" + key + ", " + server + ")",
                    () -> table.pin(key, server), () -> model.pin(key, server));
        }
    }

    private void hotEntry(int entry) {
        switch (random.nextInt(4)) {
            case 0 -> same("trackedKeys()", table::trackedKeys, model::trackedKeys);
            case 1 -> same("hotKey(" + entry + ")",
                    () -> table.hotKey(entry), () -> model.hotKey(entry));
            case 2 -> same("hotCount(" + entry + ")",
                    () -> table.hotCount(entry), () -> model.hotCount(entry));
            default -> same("hotError(" + entry + ")",
                    () -> table.hotError(entry), () -> model.hotError(entry));
        }
    }

    private void ofServer(int server) {
        int index = mostly(0, 60);
        switch (random.nextInt(5)) {
            case 0 -> same("preference(" + server + ", " + index + ")",
                    () -> table.preference(server, index), () -> model.preference(server, index));
            case 1 -> same("slotsOf(" + server + ")",
                    () -> table.slotsOf(server), () -> model.slotsOf(server));
            case 2 -> same("idealShare(" + server + ")",
                    () -> table.idealShare(server), () -> model.idealShare(server));
            case 3 -> same("removalDisruption(" + server + ")",
                    () -> table.removalDisruption(server), () -> model.removalDisruption(server));
            default -> same("loadOf(" + server + ")",
                    () -> table.loadOf(server), () -> model.loadOf(server));
        }
    }

    private void seldomReset() {
        int slots = random.nextInt(8) == 0 ? mostly(2, 64) : 4;
        same("reset(" + slots + ")", () -> table.reset(slots), () -> model.reset(slots));
    }
}
