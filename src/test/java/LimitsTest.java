import java.util.Arrays;

/**
 * The limits that the document names under 'Description', in its order: what is just small or
 * great enough is taken, one more is refused, and what is full, empty or at its end goes on
 * rightly. Refused calls are in RefusalsTest, call by call.
 *
 * <p>With 5 slots the preferences are, worked out by hand: name 1: 3 4 0 1 2; name 2: 4 1 3 0 2.
 */
public final class LimitsTest {
    private static final int NONE = PreferenceTable.NONE;
    private static final int[] SLOT_COUNTS = {
        5, 7, 11, 13, 17, 19, 23, 29, 31, 37, 41, 43, 47, 53, 59, 61
    };

    public static void main(String[] args) {
        fiveHundredAndTwelveCalls();
        tenServers();
        callsWithServersZeroAndNine();
        namesFromOneTo9999();
        noOtherServerHasTheName();
        weightsFromOneTo16();
        slotCountsFrom5To61();
        preferencesWrapAround();
        eachSlotOccursOnceAmongThePreferences();
        builtAnewAlsoForTheSameWeight();
        noServerUp();
        greatestWeightOfTheServersThatAreUp();
        turnsByIntegerDivision();
        buildingEndsInsideARound();
        moreServersThanSlots();
        forcedDisruptionAtItsEnds();
        shareAndImbalanceAtTheirEnds();
        keysFromZeroTo99999();
        slotOfAKeyNeedsLongs();
        sixPins();
        sixPinsWithPinHottest();
        pinsComeAndGoWithTheirServers();
        requestsFromOneToAMillion();
        loadStartsAtZero();
        rankingFromOneToTenServers();
        rankingNeedsLongs();
        eightEntries();
        theNinthKeyReplaces();
        fourChanges();
        undoAtTheLimitsOfServersAndPins();
        Check.finish();
    }

    private static PreferenceTable withSlots(int slots) {
        PreferenceTable t = new PreferenceTable();
        t.reset(slots);
        return t;
    }

    /** Servers 0 to count - 1 of weight 1, with the names 1 to count. */
    private static PreferenceTable withServers(int slots, int count) {
        PreferenceTable t = withSlots(slots);
        for (int server = 0; server < count; server++) {
            Check.is("addServer number " + server, t.addServer(server + 1, 1), server);
        }
        return t;
    }

    private static String slotCounts(PreferenceTable t, int servers) {
        int[] counts = new int[servers];
        for (int server = 0; server < servers; server++) {
            counts[server] = t.slotsOf(server);
        }
        return Arrays.toString(counts);
    }

    /** "An object is used for at most 512 calls after it has been made" */
    private static void fiveHundredAndTwelveCalls() {
        PreferenceTable t = new PreferenceTable();
        t.addServer(1, 16);
        for (int call = 2; call <= 509; call++) {
            t.request(99999, 1000000);
        }
        Check.is("call 510: loadOf(0)", t.loadOf(0), 508000000L);
        Check.is("call 511: hotCount(0)", t.hotCount(0), 508000000L);
        Check.is("call 512: undo()", t.undo(), 0);
    }

    /** "There are at most 10 servers, ...; a new server gets the lowest number that is free." */
    private static void tenServers() {
        PreferenceTable t = withServers(13, 10);
        Check.badState("the 11th server", () -> t.addServer(11, 1));
        t.setUp(4, false);
        Check.badState("the 11th server, with one down", () -> t.addServer(11, 1));
        t.removeServer(9);
        Check.is("number 9 again", t.addServer(11, 1), 9);
        t.removeServer(9);
        t.removeServer(0);
        Check.is("number 0 before number 9", t.addServer(12, 1), 0);
        Check.is("then number 9", t.addServer(13, 1), 9);
        Check.badState("full again", () -> t.addServer(14, 1));
        Check.is("serverCount()", t.serverCount(), 10);
    }

    /** "with the numbers 0 to 9", in each call that takes a server. */
    private static void callsWithServersZeroAndNine() {
        for (int server : new int[] {0, 9}) {
            String of = "(" + server + ")";
            PreferenceTable t = withServers(11, 10);
            Check.is("preference" + of, t.preference(server, 0), (31 * (server + 1) + 7) % 11);
            Check.is("slotsOf" + of, t.slotsOf(server), server == 0 ? 2 : 1);
            Check.isDouble("idealShare" + of, t.idealShare(server), 1.1);
            Check.is("pin to" + of, t.pin(1, server), 1);
            Check.is("serverOf the pinned key", t.serverOf(1), server);
            Check.is("request of the pinned key", t.request(1, 7), server);
            Check.is("loadOf" + of, t.loadOf(server), 7);
            Check.is("serverNamed" + of, t.serverNamed(server + 1), server);
            int foretold = t.removalDisruption(server);
            Check.is("setWeight" + of, t.setWeight(server, 2), 1);
            Check.is("setWeight back" + of, t.setWeight(server, 1), 2);
            Check.judge(t.setUp(server, false), "setUp" + of + " down answered false");
            Check.judge(!t.setUp(server, true), "setUp" + of + " up answered true");
            Check.is("removeServer" + of, t.removeServer(server), 7);
            Check.is("removalDisruption" + of, foretold, t.disruption());
        }
    }

    /** "A server has a name (1 to 9999)" */
    private static void namesFromOneTo9999() {
        PreferenceTable t = withSlots(5);
        Check.is("addServer(1, 1)", t.addServer(1, 1), 0);
        Check.is("addServer(9999, 1)", t.addServer(9999, 1), 1);
        Check.is("serverNamed(1)", t.serverNamed(1), 0);
        Check.is("serverNamed(9999)", t.serverNamed(9999), 1);
        Check.is("serverNamed(2)", t.serverNamed(2), NONE);
        Check.is("serverNamed(9998)", t.serverNamed(9998), NONE);
        // 31 * 9999 + 7 = 309976 = 5 * 61995 + 1; 17 * 9999 + 3 = 169986 = 4 * 42496 + 2.
        Check.isText("preferences of 9999", preferences(t, 1, 5), "[1, 4, 2, 0, 3]");
    }

    private static String preferences(PreferenceTable t, int server, int slots) {
        int[] list = new int[slots];
        for (int index = 0; index < slots; index++) {
            list[index] = t.preference(server, index);
        }
        return Arrays.toString(list);
    }

    /** "a name ..., which no other server has" */
    private static void noOtherServerHasTheName() {
        PreferenceTable t = withServers(5, 2);
        Check.badState("a name that is taken", () -> t.addServer(2, 3));
        t.removeServer(1);
        Check.is("a name that is free again", t.addServer(2, 3), 1);
        t.undo();
        t.undo();
        Check.badState("a name that an undo brought back", () -> t.addServer(2, 3));
        t.undo();
        Check.is("a name that an undo took away", t.addServer(2, 3), 1);
        t.reset(5);
        Check.is("a name behind reset", t.addServer(2, 3), 0);
    }

    /** "a weight (1 to 16)" */
    private static void weightsFromOneTo16() {
        PreferenceTable t = withSlots(17);
        Check.is("addServer of weight 1", t.addServer(1, 1), 0);
        Check.is("addServer of weight 16", t.addServer(2, 16), 1);
        Check.isDouble("share of weight 1", t.idealShare(0), 1.0);
        Check.isDouble("share of weight 16", t.idealShare(1), 16.0);
        Check.isText("slots of weights 1 and 16", slotCounts(t, 2), "[1, 16]");
        Check.is("setWeight(0, 16)", t.setWeight(0, 16), 1);
        Check.is("setWeight(1, 1)", t.setWeight(1, 1), 16);
        Check.isText("slots of weights 16 and 1", slotCounts(t, 2), "[16, 1]");
        Check.is("setWeight(1, 16)", t.setWeight(1, 16), 1);
        Check.isText("slots of weights 16 and 16", slotCounts(t, 2), "[9, 8]");
    }

    /** "The table has M slots, numbered from 0, where M is a prime number from 5 to 61" */
    private static void slotCountsFrom5To61() {
        for (int slots : SLOT_COUNTS) {
            PreferenceTable t = new PreferenceTable();
            Check.is("reset(" + slots + ") of a new object", t.reset(slots), 13);
            Check.is("serverAt(0)", t.serverAt(0), NONE);
            Check.is("serverAt the last", t.serverAt(slots - 1), NONE);
            Check.badArgument("serverAt(" + slots + ")", () -> t.serverAt(slots));
            t.addServer(7, 1);
            Check.is("serverAt(0), taken", t.serverAt(0), 0);
            Check.is("serverAt the last, taken", t.serverAt(slots - 1), 0);
            Check.badArgument("preference(0, " + slots + ")", () -> t.preference(0, slots));
            Check.is("reset from " + slots, t.reset(5), slots);
        }
    }

    /** "its preference j ... is the slot (offset + j * skip) mod M": least and greatest skip. */
    private static void preferencesWrapAround() {
        PreferenceTable t = withSlots(61);
        // 31 * 21 + 7 = 658 = 61 * 10 + 48; 17 * 21 + 3 = 360 = 60 * 6, so the skip is 1.
        t.addServer(21, 1);
        // 31 * 28 + 7 = 875 = 61 * 14 + 21; 17 * 28 + 3 = 479 = 60 * 7 + 59, so the skip is 60.
        t.addServer(28, 1);
        for (int index = 0; index <= 12; index++) {
            Check.is("forward " + index, t.preference(0, index), 48 + index);
        }
        Check.is("forward over the last slot", t.preference(0, 13), 0);
        Check.is("forward to the end", t.preference(0, 60), 47);
        for (int index = 0; index <= 21; index++) {
            Check.is("backward " + index, t.preference(1, index), 21 - index);
        }
        Check.is("backward over slot 0", t.preference(1, 22), 60);
        Check.is("backward to the end", t.preference(1, 60), 22);
    }

    /** "So each slot occurs once among the preferences of a server." */
    private static void eachSlotOccursOnceAmongThePreferences() {
        for (int slots : SLOT_COUNTS) {
            for (int name : new int[] {1, 2, 3, slots, slots - 1, 4999, 9998, 9999}) {
                PreferenceTable t = withSlots(slots);
                t.addServer(name, 1);
                boolean[] seen = new boolean[slots];
                for (int index = 0; index < slots; index++) {
                    int slot = t.preference(0, index);
                    Check.judge(slot >= 0 && slot < slots && !seen[slot], "name " + name
                            + ", preference " + index + " of " + slots + " answered " + slot);
                    seen[Math.floorMod(slot, slots)] = true;
                }
            }
        }
    }

    /** "built anew whenever a server ... gets a weight (also if it is the same one)" */
    private static void builtAnewAlsoForTheSameWeight() {
        PreferenceTable t = withServers(5, 2);
        Check.is("disruption() of addServer", t.disruption(), 2);
        t.setWeight(1, 1);
        Check.is("disruption() of the same weight", t.disruption(), 0);
        t.setUp(1, false);
        Check.is("disruption() of down", t.disruption(), 2);
        Check.is("forcedDisruption() of down", t.forcedDisruption(), 2);
        t.setUp(1, false);
        Check.is("disruption() of down again", t.disruption(), 0);
        Check.is("forcedDisruption() of down again", t.forcedDisruption(), 0);
        t.setWeight(1, 9);
        Check.is("disruption() of a weight while down", t.disruption(), 0);
        Check.is("all four can be undone", t.undo(), 3);
    }

    /** "If no server is up, all slots contain NONE." */
    private static void noServerUp() {
        PreferenceTable t = withServers(5, 1);
        t.setUp(0, false);
        Check.isText("the only server down", Tables.slots(t, 5), "-1 -1 -1 -1 -1");
        t.addServer(2, 1);
        Check.isText("another one up", Tables.slots(t, 5), "1 1 1 1 1");
        t.removeServer(1);
        Check.isText("the other one removed", Tables.slots(t, 5), "-1 -1 -1 -1 -1");
        t.removeServer(0);
        Check.isText("all removed", Tables.slots(t, 5), "-1 -1 -1 -1 -1");
        Check.is("serverOf(0)", t.serverOf(0), NONE);
        PreferenceTable other = withServers(5, 1);
        other.undo();
        Check.isText("the first one undone", Tables.slots(other, 5), "-1 -1 -1 -1 -1");
    }

    /** "let W be the greatest weight of the servers that are up" */
    private static void greatestWeightOfTheServersThatAreUp() {
        PreferenceTable t = Tables.oneAndTwo();
        t.addServer(3, 16);
        t.setUp(2, false);
        Check.isText("weights 1 and 2, and 16 down", Tables.slots(t, 5), "1 1 0 0 1");
        t.setUp(1, false);
        Check.isText("weight 1 alone", Tables.slots(t, 5), "0 0 0 0 0");
        Check.isDouble("share of weight 1 alone", t.idealShare(0), 5.0);
    }

    /** "has a turn if r * weight / W is greater than (r - 1) * weight / W (integer divisions)" */
    private static void turnsByIntegerDivision() {
        // Weight 1 of 16 has its turns in the rounds 16, 32 and 48 only.
        lightAndHeavy(13, 0, 13);
        lightAndHeavy(17, 1, 16);
        lightAndHeavy(31, 1, 30);
        lightAndHeavy(37, 2, 35);
        lightAndHeavy(53, 3, 50);
        lightAndHeavy(61, 3, 58);
        PreferenceTable t = withSlots(17);
        t.addServer(1, 15);
        t.addServer(2, 16);
        // Weight 15 of 16 has no turn in round 1, then one in each round up to 16.
        Check.isText("slots of weights 15 and 16", slotCounts(t, 2), "[8, 9]");
    }

    private static void lightAndHeavy(int slots, int light, int heavy) {
        PreferenceTable t = withSlots(slots);
        t.addServer(1, 1);
        t.addServer(2, 16);
        Check.isText("weights 1 and 16 on " + slots, slotCounts(t, 2),
                "[" + light + ", " + heavy + "]");
        PreferenceTable other = withSlots(slots);
        other.addServer(1, 16);
        other.addServer(2, 1);
        Check.isText("weights 16 and 1 on " + slots, slotCounts(other, 2),
                "[" + heavy + ", " + light + "]");
    }

    /** "Building ends as soon as no slot is free." */
    private static void buildingEndsInsideARound() {
        Check.isText("2 servers on 5", slotCounts(withServers(5, 2), 2), "[3, 2]");
        Check.isText("3 servers on 5", slotCounts(withServers(5, 3), 3), "[2, 2, 1]");
        Check.isText("5 servers on 5", slotCounts(withServers(5, 5), 5), "[1, 1, 1, 1, 1]");
        Check.isText("10 servers on 61", slotCounts(withServers(61, 10), 10),
                "[7, 6, 6, 6, 6, 6, 6, 6, 6, 6]");
    }

    /** Those that come last in the first round get nothing. */
    private static void moreServersThanSlots() {
        PreferenceTable t = withServers(5, 10);
        Check.isText("10 servers on 5", slotCounts(t, 10), "[1, 1, 1, 1, 1, 0, 0, 0, 0, 0]");
        Check.is("removalDisruption(9), no slots", t.removalDisruption(9), 0);
        Check.isDouble("idealShare(9), no slots", t.idealShare(9), 0.5);
        Check.isDouble("imbalance()", t.imbalance(), 2.0);
        Check.is("rankedServer(9), no slots", t.rankedServer(9), 9);
        t.setUp(0, false);
        Check.isText("with 0 down", slotCounts(t, 10), "[0, 1, 1, 1, 1, 1, 0, 0, 0, 0]");
        t.setWeight(9, 2);
        // Weight 1 of 2 has no turn in round 1: 9 takes a slot, and 1 to 4 the others in round 2.
        Check.isText("with 9 of weight 2", slotCounts(t, 10), "[0, 1, 1, 1, 1, 0, 0, 0, 0, 1]");
    }

    /** "slots that contained, before, NONE or the number of a server that ... is not up" */
    private static void forcedDisruptionAtItsEnds() {
        PreferenceTable t = withSlots(61);
        t.addServer(1, 1);
        Check.is("disruption() of the first", t.disruption(), 61);
        Check.is("forcedDisruption() of the first", t.forcedDisruption(), 61);
        t.addServer(2, 1);
        Check.is("disruption() of the second", t.disruption(), 30);
        Check.is("forcedDisruption() of the second", t.forcedDisruption(), 0);
        t.undo();
        Check.is("disruption() of its undoing", t.disruption(), 30);
        Check.is("forcedDisruption() of its undoing", t.forcedDisruption(), 30);
        t.undo();
        Check.is("disruption() of the last undoing", t.disruption(), 61);
        Check.is("forcedDisruption() of the last undoing", t.forcedDisruption(), 61);
    }

    /** "it is 0.0 for a server that is down"; "0.0 if there is none" */
    private static void shareAndImbalanceAtTheirEnds() {
        PreferenceTable t = withSlots(61);
        Check.isDouble("imbalance() without servers", t.imbalance(), 0.0);
        t.addServer(1, 16);
        Check.isDouble("share of the only server", t.idealShare(0), 61.0);
        Check.isDouble("imbalance() of the only server", t.imbalance(), 1.0);
        t.setUp(0, false);
        Check.isDouble("share of the only server, down", t.idealShare(0), 0.0);
        Check.isDouble("imbalance() with all down", t.imbalance(), 0.0);
        Check.is("slotsOf(0) with all down", t.slotsOf(0), 0);
        Check.is("removalDisruption(0) with all down", t.removalDisruption(0), 0);
        t.addServer(2, 1);
        Check.is("removalDisruption(1), the only one up", t.removalDisruption(1), 61);
        Check.isDouble("imbalance() of the only one up", t.imbalance(), 1.0);
    }

    /** "Keys are numbers from 0 to 99999.", in each call that takes a key. */
    private static void keysFromZeroTo99999() {
        for (int key : new int[] {0, 99999}) {
            PreferenceTable t = Tables.oneAndTwo();
            Check.is("serverOf(" + key + ")", t.serverOf(key), 1);
            Check.is("request(" + key + ", 2)", t.request(key, 2), 1);
            Check.is("hotKey(0)", t.hotKey(0), key);
            Check.is("pin(" + key + ", 0)", t.pin(key, 0), 1);
            Check.is("serverOf(" + key + ") pinned", t.serverOf(key), 0);
            Check.is("unpin(" + key + ")", t.unpin(key), 0);
            Check.is("pinHottest() of " + key, t.pinHottest(), 0);
            Check.is("unpin(" + key + ") again", t.unpin(key), 0);
        }
    }

    /** "((40503 * key + 12345) mod 65536) mod M (computed with longs)" */
    private static void slotOfAKeyNeedsLongs() {
        PreferenceTable t = withServers(5, 5);
        // The last key whose product an int still holds: 2147481405 mod 65536 = 63293.
        Check.is("serverOf(53020)", t.serverOf(53020), t.serverAt(3));
        // The first one that an int does not hold: 2147521908 mod 65536 = 38260.
        Check.is("serverOf(53021)", t.serverOf(53021), t.serverAt(0));
        // 2654376450 mod 65536 = 37378; with key 65536 the numbers mod 65536 begin anew.
        Check.is("serverOf(65535)", t.serverOf(65535), t.serverAt(3));
        Check.is("serverOf(65536)", t.serverOf(65536), t.serverAt(0));
        Check.is("serverOf(65536) and serverOf(0)", t.serverOf(65536), t.serverOf(0));
        // 4050271842 mod 65536 = 15970.
        Check.is("serverOf(99999)", t.serverOf(99999), t.serverAt(0));
    }

    private static PreferenceTable withPins(int count) {
        PreferenceTable t = Tables.oneAndTwo();
        for (int key = 0; key < count; key++) {
            Check.is("pin(" + key + ", " + key % 2 + ")", t.pin(key, key % 2), key + 1);
        }
        return t;
    }

    /** "At most 6 keys are pinned to a server." */
    private static void sixPins() {
        PreferenceTable t = withPins(6);
        Check.badState("the seventh key", () -> t.pin(6, 0));
        Check.is("a pinned key to another server", t.pin(5, 0), 6);
        Check.is("a pinned key to its own server", t.pin(0, 0), 6);
        Check.is("unpin of a key that is not pinned", t.unpin(6), NONE);
        Check.badState("the seventh key, still", () -> t.pin(6, 0));
        Check.is("unpin(3)", t.unpin(3), 1);
        Check.is("the sixth key again", t.pin(6, 1), 6);
        Check.badState("the seventh key again", () -> t.pin(3, 0));
        t.setUp(1, false);
        Check.badState("the seventh key, pins to a server down", () -> t.pin(3, 0));
        t.reset(5);
        t.addServer(1, 1);
        Check.is("the first key behind reset", t.pin(3, 0), 1);
    }

    /** Promise 23: "the key is not pinned and 6 keys are pinned" */
    private static void sixPinsWithPinHottest() {
        PreferenceTable t = withPins(5);
        // Key 9 has slot 2 and so server 0: the loads are 1 / 1 and 0 / 2.
        t.request(9, 1);
        Check.is("pinHottest() with five pins", t.pinHottest(), 1);
        Check.badState("pin of the seventh key", () -> t.pin(6, 0));
        Check.is("pinHottest() with six pins, the key one of them", t.pinHottest(), 1);
        // Key 8 has slot 4 and so server 1: the loads are 1 / 1 and 2 / 2.
        t.request(8, 2);
        Check.badState("pinHottest() of the seventh key", t::pinHottest);
        Check.is("unpin(9)", t.unpin(9), 1);
        Check.is("pinHottest() of the sixth key", t.pinHottest(), 1);
        Check.is("unpin(8)", t.unpin(8), 1);
    }

    /** "If a server is removed, the pins to it are removed, too." */
    private static void pinsComeAndGoWithTheirServers() {
        PreferenceTable t = withPins(6);
        t.removeServer(0);
        Check.is("pin(10, 1) with three pins left", t.pin(10, 1), 4);
        Check.is("pin(11, 1)", t.pin(11, 1), 5);
        Check.is("pin(12, 1)", t.pin(12, 1), 6);
        Check.badState("the seventh key", () -> t.pin(13, 1));
        t.removeServer(1);
        t.addServer(2, 1);
        Check.is("the first pin again", t.pin(13, 0), 1);
        Check.is("unpin(12), removed", t.unpin(12), NONE);
        PreferenceTable other = withPins(6);
        other.addServer(3, 1);
        other.removeServer(2);
        Check.badState("no pin was to the removed one", () -> other.pin(6, 0));
    }

    /** "n: number of requests, 1 to 1000000"; "(to none if that is NONE) and is counted" */
    private static void requestsFromOneToAMillion() {
        PreferenceTable t = Tables.oneAndTwo();
        Check.is("request(0, 1)", t.request(0, 1), 1);
        Check.is("loadOf(1)", t.loadOf(1), 1);
        Check.is("request(0, 1000000)", t.request(0, 1000000), 1);
        Check.is("loadOf(1)", t.loadOf(1), 1000001);
        Check.is("hotCount(0)", t.hotCount(0), 1000001);
        t.setUp(0, false);
        t.setUp(1, false);
        Check.is("request(0, 1000000) with all down", t.request(0, 1000000), NONE);
        Check.is("loadOf(0), as before", t.loadOf(0), 0);
        Check.is("loadOf(1), as before", t.loadOf(1), 1000001);
        Check.is("hotCount(0), counted", t.hotCount(0), 2000001);
    }

    /** "The load of a server starts at 0 when it is added." */
    private static void loadStartsAtZero() {
        PreferenceTable t = withServers(5, 1);
        t.request(0, 50);
        Check.is("removeServer(0)", t.removeServer(0), 50);
        Check.is("addServer(1, 1)", t.addServer(1, 1), 0);
        Check.is("loadOf(0), the same name and number", t.loadOf(0), 0);
        Check.is("removeServer(0) again", t.removeServer(0), 0);
        t.undo();
        t.undo();
        t.undo();
        Check.is("loadOf(0) of the first one", t.loadOf(0), 50);
    }

    /** "all servers that are up"; "with equal quotients the one with the lower number first" */
    private static void rankingFromOneToTenServers() {
        PreferenceTable t = withServers(13, 10);
        for (int place = 0; place < 10; place++) {
            Check.is("rankedServer(" + place + "), all loads 0", t.rankedServer(place), place);
        }
        Check.badIndex("rankedServer(10)", () -> t.rankedServer(10));
        t.pin(1, 9);
        t.pin(2, 5);
        t.request(1, 2);
        t.request(2, 1);
        Check.is("the greatest first", t.rankedServer(0), 9);
        Check.is("then the next", t.rankedServer(1), 5);
        Check.is("then the lowest of equal ones", t.rankedServer(2), 0);
        t.setWeight(9, 2);
        Check.is("2 / 2 and 1 / 1 are equal", t.rankedServer(0), 5);
        Check.is("9 behind 5", t.rankedServer(1), 9);
        Check.is("the last", t.rankedServer(9), 8);
        for (int server = 0; server < 9; server++) {
            t.setUp(server, false);
        }
        Check.is("the only one up", t.rankedServer(0), 9);
        Check.badIndex("no second one up", () -> t.rankedServer(1));
        t.setUp(9, false);
        Check.badIndex("none up", () -> t.rankedServer(0));
    }

    /** "(compared exactly, as fractions)": 200000000 * 16 is more than an int holds. */
    private static void rankingNeedsLongs() {
        PreferenceTable t = withServers(5, 2);
        t.setWeight(1, 16);
        t.pin(1, 0);
        t.pin(2, 1);
        for (int i = 0; i < 200; i++) {
            t.request(1, 1000000);
        }
        t.request(2, 1000000);
        Check.is("200000000 / 1 before 1000000 / 16", t.rankedServer(0), 0);
        Check.is("1000000 / 16 last", t.rankedServer(1), 1);
        for (int i = 0; i < 100; i++) {
            t.request(1, 1000000);
        }
        // 300000000 * 16 is more than twice of what an int holds.
        Check.is("300000000 / 1 before 1000000 / 16", t.rankedServer(0), 0);
        Check.is("pinHottest() to the last", t.pinHottest(), 1);
    }

    private static PreferenceTable withEntries(int count) {
        PreferenceTable t = new PreferenceTable();
        for (int key = 1; key <= count; key++) {
            t.request(key, 3);
        }
        return t;
    }

    /** "The tracker has at most 8 entries."; "they are numbered from 0" */
    private static void eightEntries() {
        for (int count = 0; count <= 8; count++) {
            PreferenceTable t = withEntries(count);
            int end = count;
            Check.is("trackedKeys()", t.trackedKeys(), count);
            Check.badIndex("hotKey(" + end + ")", () -> t.hotKey(end));
            Check.badIndex("hotCount(" + end + ")", () -> t.hotCount(end));
            Check.badIndex("hotError(" + end + ")", () -> t.hotError(end));
            if (count > 0) {
                Check.is("hotKey of the last", t.hotKey(end - 1), count);
                Check.is("hotCount of the last", t.hotCount(end - 1), 3);
                Check.is("hotError of the last", t.hotError(end - 1), 0);
            }
        }
        PreferenceTable t = withEntries(8);
        t.request(8, 1);
        Check.isText("a key that has an entry, with 8", Tables.entries(t),
                "8:4:0 1:3:0 2:3:0 3:3:0 4:3:0 5:3:0 6:3:0 7:3:0");
    }

    /** "the entry with the least count, of several the one with the lowest key, is replaced" */
    private static void theNinthKeyReplaces() {
        PreferenceTable t = withEntries(7);
        t.request(99999, 3);
        t.request(0, 1);
        Check.isText("1, the lowest of all", Tables.entries(t),
                "0:4:3 2:3:0 3:3:0 4:3:0 5:3:0 6:3:0 7:3:0 99999:3:0");
        for (int key = 2; key <= 7; key++) {
            t.request(key, 1);
        }
        t.request(1, 1000000);
        Check.isText("99999, the only one with the least count", Tables.entries(t),
                "1:1000003:3 0:4:3 2:4:0 3:4:0 4:4:0 5:4:0 6:4:0 7:4:0");
        t.request(99999, 1);
        Check.isText("0, which replaced another", Tables.entries(t),
                "1:1000003:3 99999:5:4 2:4:0 3:4:0 4:4:0 5:4:0 6:4:0 7:4:0");
        Check.is("trackedKeys()", t.trackedKeys(), 8);
        t.reset(13);
        Check.is("trackedKeys() behind reset", t.trackedKeys(), 0);
        t.request(5, 1);
        Check.isText("a first entry again", Tables.entries(t), "5:1:0");
    }

    /** "The last 4 changes can be undone" */
    private static void fourChanges() {
        for (int changes = 1; changes <= 6; changes++) {
            PreferenceTable t = withSlots(5);
            t.addServer(1, 1);
            for (int weight = 2; weight <= changes; weight++) {
                t.setWeight(0, weight);
            }
            int most = Math.min(changes, 4);
            for (int left = most - 1; left >= 0; left--) {
                Check.is("undo() of " + changes, t.undo(), left);
            }
            Check.badState("undo() of one more than " + most, t::undo);
            Check.is("serverCount() at the end", t.serverCount(), changes <= 4 ? 0 : 1);
            if (changes > 4) {
                Check.is("weight at the end", t.setWeight(0, 9), changes - 4);
                Check.is("undo() of a change behind it", t.undo(), 0);
            }
        }
    }

    /** "all servers ..., all pins and the slots are as just before the change" */
    private static void undoAtTheLimitsOfServersAndPins() {
        PreferenceTable t = withServers(5, 10);
        for (int key = 0; key < 6; key++) {
            t.pin(key, 9);
        }
        t.request(0, 5);
        t.removeServer(9);
        Check.is("pin(50, 0) with all pins removed", t.pin(50, 0), 1);
        Check.is("undo()", t.undo(), 3);
        Check.badState("ten servers again", () -> t.addServer(11, 1));
        Check.badState("six pins again", () -> t.pin(50, 0));
        Check.is("serverOf(5) pinned again", t.serverOf(5), 9);
        Check.is("loadOf(9) again", t.loadOf(9), 5);
        Check.is("undo() of the tenth server", t.undo(), 2);
        Check.is("pins of before it", t.pin(50, 0), 1);
        Check.is("hotCount(0) goes on", t.hotCount(0), 5);
        Check.is("number 9 is free", t.addServer(9999, 16), 9);
    }
}
