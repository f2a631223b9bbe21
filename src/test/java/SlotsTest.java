/**
 * Promises 1 to 6: a new object, reset, serverAt, disruption, forcedDisruption, imbalance.
 *
 * <p>With 5 slots the preferences are, worked out by hand: name 1: 3 4 0 1 2; name 2: 4 1 3 0 2.
 */
public final class SlotsTest {
    public static void main(String[] args) {
        newObject();
        resetTakesJustThePrimes();
        resetStartsAnew();
        refusedResetChangesNothing();
        serverAtKnowsItsSlots();
        equalWeightsTakeTurns();
        heavierServersHaveMoreTurns();
        disruptionOfEachKindOfChange();
        disruptionWithoutServersUp();
        forcedOfEveryBuildingWithAllSlotsNone();
        forcedIsNotAPartOfDisruption();
        imbalance();
        Check.finish();
    }

    private static void newObject() {
        PreferenceTable t = new PreferenceTable();
        Check.isText("new: slots", Tables.slots(t, 13),
                "-1 -1 -1 -1 -1 -1 -1 -1 -1 -1 -1 -1 -1");
        Check.badArgument("new: serverAt(13)", () -> t.serverAt(13));
        Check.is("new: serverCount()", t.serverCount(), 0);
        Check.is("new: trackedKeys()", t.trackedKeys(), 0);
        Check.is("new: disruption()", t.disruption(), 0);
        Check.is("new: forcedDisruption()", t.forcedDisruption(), 0);
        Check.isDouble("new: imbalance()", t.imbalance(), 0.0);
        Check.is("new: unpin(0)", t.unpin(0), PreferenceTable.NONE);
        Check.badIndex("new: rankedServer(0)", () -> t.rankedServer(0));
        Check.badState("new: undo()", t::undo);
        Check.is("new: reset(5)", t.reset(5), 13);
    }

    private static boolean isPrime(int n) {
        int divisors = 0;
        for (int d = 1; d <= n; d++) {
            divisors += n % d == 0 ? 1 : 0;
        }
        return divisors == 2;
    }

    private static void resetTakesJustThePrimes() {
        PreferenceTable t = new PreferenceTable();
        int current = 13;
        for (int slots = -70; slots <= 140; slots++) {
            int asked = slots;
            if (slots >= 5 && slots <= 61 && isPrime(slots)) {
                Check.is("reset(" + slots + ")", t.reset(slots), current);
                current = slots;
                t.addServer(9, 1);
                Check.is("slotsOf(0) of " + slots, t.slotsOf(0), slots);
                Check.badArgument("serverAt(" + slots + ")", () -> t.serverAt(asked));
            } else {
                Check.badArgument("reset(" + slots + ")", () -> t.reset(asked));
            }
        }
        Check.badArgument("reset(least)", () -> t.reset(Integer.MIN_VALUE));
        Check.badArgument("reset(greatest)", () -> t.reset(Integer.MAX_VALUE));
        Check.is("reset(61) again", t.reset(61), 61);
    }

    private static PreferenceTable busy() {
        PreferenceTable t = Tables.withFiveSlots();
        t.addServer(1, 1);
        t.addServer(2, 1);
        t.request(4, 9);
        t.pin(4, 1);
        t.pin(7, 1);
        return t;
    }

    private static void resetStartsAnew() {
        PreferenceTable t = busy();
        t.setUp(0, false);
        Check.is("forcedDisruption() before reset", t.forcedDisruption(), 3);
        Check.is("reset(7)", t.reset(7), 5);
        Check.isText("slots after reset", Tables.slots(t, 7), "-1 -1 -1 -1 -1 -1 -1");
        Check.is("serverCount() after reset", t.serverCount(), 0);
        Check.is("serverNamed(1) after reset", t.serverNamed(1), PreferenceTable.NONE);
        Check.badArgument("loadOf(0) after reset", () -> t.loadOf(0));
        Check.is("trackedKeys() after reset", t.trackedKeys(), 0);
        Check.badIndex("hotKey(0) after reset", () -> t.hotKey(0));
        Check.is("disruption() after reset", t.disruption(), 0);
        Check.is("forcedDisruption() after reset", t.forcedDisruption(), 0);
        Check.isDouble("imbalance() after reset", t.imbalance(), 0.0);
        Check.badState("undo() after reset", t::undo);
        Check.is("addServer(2, 1) after reset", t.addServer(2, 1), 0);
        Check.is("loadOf(0) after reset", t.loadOf(0), 0);
        Check.is("forcedDisruption() of the first server", t.forcedDisruption(), 7);
        Check.is("unpin(4) after reset", t.unpin(4), PreferenceTable.NONE);
        Check.is("pin(1, 0) after reset", t.pin(1, 0), 1);
    }

    private static void refusedResetChangesNothing() {
        PreferenceTable t = busy();
        Check.badArgument("reset(6)", () -> t.reset(6));
        Check.isText("slots after a refused reset", Tables.slots(t, 5), "0 1 0 0 1");
        Check.badArgument("serverAt(5) after a refused reset", () -> t.serverAt(5));
        Check.is("disruption() after a refused reset", t.disruption(), 2);
        Check.isText("entries after a refused reset", Tables.entries(t), "4:9:0");
        Check.is("unpin(7) after a refused reset", t.unpin(7), 1);
        Check.is("undo() after a refused reset", t.undo(), 1);
    }

    private static void serverAtKnowsItsSlots() {
        PreferenceTable t = Tables.withFiveSlots();
        Check.badArgument("serverAt(-1)", () -> t.serverAt(-1));
        Check.badArgument("serverAt(5)", () -> t.serverAt(5));
        Check.badArgument("serverAt(least)", () -> t.serverAt(Integer.MIN_VALUE));
        Check.badArgument("serverAt(greatest)", () -> t.serverAt(Integer.MAX_VALUE));
        Check.is("serverAt(4)", t.serverAt(4), PreferenceTable.NONE);
        t.addServer(1, 1);
        Check.is("serverAt(0)", t.serverAt(0), 0);
        Check.is("serverAt(4)", t.serverAt(4), 0);
    }

    private static void equalWeightsTakeTurns() {
        PreferenceTable t = Tables.withFiveSlots();
        t.addServer(1, 16);
        t.addServer(2, 16);
        Check.isText("slots of equal weights", Tables.slots(t, 5), "0 1 0 0 1");
        PreferenceTable other = Tables.withFiveSlots();
        other.addServer(2, 1);
        other.addServer(1, 1);
        // Name 2 takes 4, name 1 takes 3, then 1 and 0, then name 2 the last one.
        Check.isText("slots in the order of the numbers", Tables.slots(other, 5), "1 0 0 1 0");
    }

    private static void heavierServersHaveMoreTurns() {
        PreferenceTable t = Tables.withFiveSlots();
        t.addServer(1, 1);
        t.addServer(2, 2);
        // Server 1 has a turn in each round, server 0 in rounds 2 and 4.
        Check.isText("slots of weights 1 and 2", Tables.slots(t, 5), "1 1 0 0 1");
        t.setWeight(1, 16);
        Check.isText("slots of weights 1 and 16", Tables.slots(t, 5), "1 1 1 1 1");
        t.setWeight(0, 12);
        // Server 0 has no turn in round 1 (12 / 16 = 0), then takes 3 and 0; server 1 takes 4, 1, 2.
        Check.isText("slots of weights 12 and 16", Tables.slots(t, 5), "0 1 1 0 1");
    }

    private static void disruptionOfEachKindOfChange() {
        PreferenceTable t = Tables.withFiveSlots();
        t.addServer(1, 1);
        disruptions(t, "the first server", 5, 5);
        t.addServer(2, 1);
        disruptions(t, "the second server", 2, 0);
        t.setWeight(1, 2);
        disruptions(t, "a weight", 1, 0);
        t.setWeight(1, 2);
        disruptions(t, "the same weight", 0, 0);
        t.setUp(0, false);
        disruptions(t, "down", 2, 2);
        t.setUp(0, false);
        disruptions(t, "down again", 0, 0);
        t.undo();
        disruptions(t, "undo of nothing", 0, 0);
        t.undo();
        disruptions(t, "undo of down", 2, 0);
        t.removeServer(1);
        disruptions(t, "removed", 3, 3);
        t.undo();
        disruptions(t, "undo of removed", 3, 0);
        t.undo();
        disruptions(t, "undo of the same weight", 0, 0);
        Check.badArgument("setUp(2, true)", () -> t.setUp(2, true));
        t.setUp(1, false);
        Check.badArgument("setWeight(1, 0)", () -> t.setWeight(1, 0));
        disruptions(t, "a refused change", 3, 3);
    }

    private static void disruptions(PreferenceTable t, String what, int due, int dueForced) {
        Check.is("disruption() of " + what, t.disruption(), due);
        Check.is("forcedDisruption() of " + what, t.forcedDisruption(), dueForced);
    }

    private static void disruptionWithoutServersUp() {
        PreferenceTable t = Tables.withFiveSlots();
        t.addServer(1, 1);
        t.setUp(0, false);
        disruptions(t, "the last server down", 5, 5);
        t.setUp(0, false);
        disruptions(t, "down with all slots NONE", 0, 5);
        t.setWeight(0, 3);
        disruptions(t, "a weight with all slots NONE", 0, 5);
        t.setUp(0, true);
        disruptions(t, "up with all slots NONE", 5, 5);
        t.removeServer(0);
        disruptions(t, "the only server removed", 5, 5);
    }

    /** A slot that contained NONE counts in every building, also if it still contains NONE. */
    private static void forcedOfEveryBuildingWithAllSlotsNone() {
        PreferenceTable t = Tables.withFiveSlots();
        t.addServer(1, 1);
        t.setUp(0, false);
        t.setUp(0, false);
        t.setWeight(0, 3);
        t.undo();
        disruptions(t, "undo of a weight, NONE before and behind", 0, 5);
        t.undo();
        disruptions(t, "undo of down again, NONE before and behind", 0, 5);
        t.removeServer(0);
        disruptions(t, "a server that is down removed, NONE before and behind", 0, 5);
        t.undo();
        disruptions(t, "undo of that, NONE before and behind", 0, 5);
        t.undo();
        disruptions(t, "undo of down, NONE before", 5, 5);
        t.undo();
        disruptions(t, "undo of the only server", 5, 5);
        t.reset(7);
        disruptions(t, "reset", 0, 0);
    }

    private static void forcedIsNotAPartOfDisruption() {
        PreferenceTable t = new PreferenceTable();
        t.reset(61);
        for (int i = 0; i < 10; i++) {
            t.addServer(1 + 7 * i, 1 + i % 5);
        }
        int owned = t.slotsOf(0);
        t.setUp(0, false);
        disruptions(t, "a light server of ten down", 4, owned);
        Check.is("slotsOf(0) of a light server of ten", owned, 2);
    }

    private static void imbalance() {
        PreferenceTable t = Tables.withFiveSlots();
        t.addServer(1, 1);
        Check.isDouble("imbalance() of one server", t.imbalance(), 1.0);
        t.addServer(2, 2);
        Check.isDouble("imbalance() of two", t.imbalance(), 2.0 / (5.0 / 3.0));
        t.addServer(3, 16);
        t.setUp(2, false);
        Check.isDouble("imbalance() with one down", t.imbalance(), 2.0 / (5.0 / 3.0));
        t.setWeight(1, 16);
        Check.isDouble("imbalance() with none for one", t.imbalance(), 5.0 / (80.0 / 17.0));
        t.setUp(0, false);
        t.setUp(1, false);
        Check.isDouble("imbalance() with all down", t.imbalance(), 0.0);
        t.reset(5);
        for (int name = 1; name <= 6; name++) {
            t.addServer(name, 1);
        }
        Check.isDouble("imbalance() of shares below 1", t.imbalance(), 1.0 / (5.0 / 6.0));
    }
}
