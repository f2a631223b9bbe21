/** Promises 21 to 23: pin, unpin, pinHottest. */
public final class PinsTest {
    public static void main(String[] args) {
        pin();
        pinRefuses();
        sixPinsAtMost();
        pinToAServerThatIsDown();
        unpin();
        pinHottest();
        pinHottestInPlaceOfAPin();
        pinHottestRefuses();
        Check.finish();
    }

    private static PreferenceTable withSixPins() {
        PreferenceTable t = Tables.oneAndTwo();
        for (int key = 0; key < 6; key++) {
            Check.is("pin(" + key + ", 0)", t.pin(key, 0), key + 1);
        }
        return t;
    }

    private static void pin() {
        PreferenceTable t = Tables.oneAndTwo();
        Check.is("pin(0, 0)", t.pin(0, 0), 1);
        Check.is("serverOf(0)", t.serverOf(0), 0);
        Check.is("pin(99999, 0)", t.pin(99999, 0), 2);
        Check.is("serverOf(99999)", t.serverOf(99999), 0);
        Check.is("pin(0, 1) in place of 0", t.pin(0, 1), 2);
        Check.is("serverOf(0)", t.serverOf(0), 1);
        Check.is("pin(0, 1) again", t.pin(0, 1), 2);
        Check.is("serverOf(99999)", t.serverOf(99999), 0);
        Check.is("serverOf(8), not pinned", t.serverOf(8), 1);
        Check.is("a pin is no change", t.undo(), 1);
    }

    private static void pinRefuses() {
        PreferenceTable t = withSixPins();
        Check.badArgument("pin(-1, 0)", () -> t.pin(-1, 0));
        Check.badArgument("pin(100000, 0)", () -> t.pin(100000, 0));
        Check.badArgument("pin(least, 0)", () -> t.pin(Integer.MIN_VALUE, 0));
        Check.badArgument("pin(greatest, 0)", () -> t.pin(Integer.MAX_VALUE, 0));
        Check.badArgument("pin(9, -1) with six pins", () -> t.pin(9, -1));
        Check.badArgument("pin(9, 2) with six pins", () -> t.pin(9, 2));
        Check.badArgument("pin(0, 2)", () -> t.pin(0, 2));
        Check.is("serverOf(0) after the refusals", t.unpin(0), 0);
    }

    private static void sixPinsAtMost() {
        PreferenceTable t = withSixPins();
        Check.badState("pin(6, 0)", () -> t.pin(6, 0));
        Check.is("unpin(6)", t.unpin(6), PreferenceTable.NONE);
        Check.is("pin(0, 1), pinned already", t.pin(0, 1), 6);
        Check.is("pin(5, 1), pinned already", t.pin(5, 1), 6);
        Check.is("unpin(2)", t.unpin(2), 0);
        Check.is("pin(6, 1)", t.pin(6, 1), 6);
        Check.badState("pin(2, 0)", () -> t.pin(2, 0));
        int[] due = {1, 0, PreferenceTable.NONE, 0, 0, 1, 1};
        for (int key = 0; key < due.length; key++) {
            Check.is("unpin(" + key + ")", t.unpin(key), due[key]);
        }
        Check.is("pin(3, 0), the first again", t.pin(3, 0), 1);
    }

    private static void pinToAServerThatIsDown() {
        PreferenceTable t = Tables.oneAndTwo();
        t.setUp(0, false);
        Check.is("pin(0, 0) while down", t.pin(0, 0), 1);
        Check.is("serverOf(0) while down", t.serverOf(0), 1);
        Check.is("request(0, 3) while down", t.request(0, 3), 1);
        t.setUp(0, true);
        Check.is("serverOf(0) up", t.serverOf(0), 0);
        Check.is("loadOf(0)", t.loadOf(0), 0);
    }

    private static void unpin() {
        PreferenceTable t = Tables.oneAndTwo();
        t.pin(0, 0);
        t.pin(1, 1);
        Check.is("unpin(0)", t.unpin(0), 0);
        Check.is("unpin(0) again", t.unpin(0), PreferenceTable.NONE);
        Check.is("serverOf(0)", t.serverOf(0), 1);
        Check.is("serverOf(1)", t.serverOf(1), 1);
        t.setUp(1, false);
        Check.is("unpin(1), its server down", t.unpin(1), 1);
        Check.is("unpin(99999)", t.unpin(99999), PreferenceTable.NONE);
        Check.badArgument("unpin(-1)", () -> t.unpin(-1));
        Check.badArgument("unpin(100000)", () -> t.unpin(100000));
        Check.badArgument("unpin(least)", () -> t.unpin(Integer.MIN_VALUE));
        Check.badArgument("unpin(greatest)", () -> t.unpin(Integer.MAX_VALUE));
        Check.is("an unpin is no change", t.undo(), 2);
    }

    private static void pinHottest() {
        PreferenceTable t = Tables.oneAndTwo();
        t.request(3, 4);
        t.request(0, 6);
        Check.is("rankedServer(1)", t.rankedServer(1), 1);
        Check.is("pinHottest()", t.pinHottest(), 1);
        Check.is("unpin(0)", t.unpin(0), 1);
        t.request(0, 4);
        Check.is("pinHottest() on the other", t.pinHottest(), 0);
        Check.is("serverOf(0)", t.serverOf(0), 0);
        Check.is("unpin(3)", t.unpin(3), PreferenceTable.NONE);
        t.setUp(0, false);
        Check.is("pinHottest() with 0 down", t.pinHottest(), 1);
        Check.is("pin(4, 0)", t.pin(4, 0), 2);
        Check.is("pinHottest is no change", t.undo(), 2);
    }

    private static void pinHottestInPlaceOfAPin() {
        PreferenceTable t = withSixPins();
        t.request(3, 1);
        Check.is("pinHottest() of a pinned key, with six pins", t.pinHottest(), 1);
        Check.is("serverOf(3)", t.serverOf(3), 1);
        Check.badState("pin(6, 0), still six", () -> t.pin(6, 0));
        t.request(77, 2);
        Check.badState("pinHottest() of a key that is not pinned", t::pinHottest);
        Check.is("unpin(77)", t.unpin(77), PreferenceTable.NONE);
        Check.is("unpin(1)", t.unpin(1), 0);
        Check.is("pinHottest() with five pins", t.pinHottest(), 1);
        Check.is("unpin(77)", t.unpin(77), 1);
    }

    private static void pinHottestRefuses() {
        PreferenceTable t = new PreferenceTable();
        Check.badState("pinHottest() of a new object", t::pinHottest);
        t.addServer(1, 1);
        Check.badState("pinHottest() without entries", t::pinHottest);
        t.request(5, 1);
        t.setUp(0, false);
        Check.badState("pinHottest() with all down", t::pinHottest);
        Check.is("unpin(5)", t.unpin(5), PreferenceTable.NONE);
        t.removeServer(0);
        Check.badState("pinHottest() without servers", t::pinHottest);
    }
}
