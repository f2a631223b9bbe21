/** The five examples of the document, call by call. */
public final class ExamplesTest {
    public static void main(String[] args) {
        twoServersOfEqualWeight();
        removedAndUndone();
        loadsRankingAndHotKeys();
        aPinnedKey();
        exceptions();
        Check.finish();
    }

    private static void twoServersOfEqualWeight() {
        PreferenceTable t = new PreferenceTable();
        Check.is("1: addServer(1, 1)", t.addServer(1, 1), 0);
        Check.is("1: addServer(2, 1)", t.addServer(2, 1), 1);
        Check.is("1: disruption()", t.disruption(), 6);
        Check.is("1: slotsOf(0)", t.slotsOf(0), 7);
        Check.is("1: slotsOf(1)", t.slotsOf(1), 6);
        Check.isDouble("1: idealShare(0)", t.idealShare(0), 6.5);
    }

    private static void removedAndUndone() {
        PreferenceTable t = new PreferenceTable();
        Check.is("2: addServer(1, 1)", t.addServer(1, 1), 0);
        Check.is("2: addServer(2, 3)", t.addServer(2, 3), 1);
        Check.is("2: removalDisruption(0)", t.removalDisruption(0), 3);
        Check.is("2: removeServer(0)", t.removeServer(0), 0);
        Check.is("2: disruption()", t.disruption(), 3);
        Check.is("2: forcedDisruption()", t.forcedDisruption(), 3);
        Check.is("2: undo()", t.undo(), 2);
    }

    private static void loadsRankingAndHotKeys() {
        PreferenceTable t = new PreferenceTable();
        Check.is("3: addServer(5, 2)", t.addServer(5, 2), 0);
        Check.is("3: addServer(6, 1)", t.addServer(6, 1), 1);
        Check.is("3: request(3, 10)", t.request(3, 10), 0);
        Check.is("3: request(4, 10)", t.request(4, 10), 1);
        Check.is("3: rankedServer(0)", t.rankedServer(0), 1);
        Check.is("3: hotKey(0)", t.hotKey(0), 3);
        Check.is("3: hotCount(1)", t.hotCount(1), 10);
    }

    private static void aPinnedKey() {
        PreferenceTable t = new PreferenceTable();
        Check.is("4: reset(7)", t.reset(7), 13);
        Check.is("4: addServer(1, 1)", t.addServer(1, 1), 0);
        Check.is("4: addServer(2, 1)", t.addServer(2, 1), 1);
        Check.is("4: pin(3, 1)", t.pin(3, 1), 1);
        Check.is("4: serverOf(3)", t.serverOf(3), 1);
        Check.judge(t.setUp(1, false), "4: setUp(1, false) answered false, due is true");
        Check.is("4: serverOf(3)", t.serverOf(3), 0);
    }

    private static void exceptions() {
        PreferenceTable t = new PreferenceTable();
        Check.badArgument("5: reset(9)", () -> t.reset(9));
        Check.badArgument("5: addServer(1, 17)", () -> t.addServer(1, 17));
        Check.is("5: addServer(1, 1)", t.addServer(1, 1), 0);
        Check.badState("5: addServer(1, 2)", () -> t.addServer(1, 2));
        Check.is("5: undo()", t.undo(), 0);
        Check.badState("5: undo()", t::undo);
    }
}
