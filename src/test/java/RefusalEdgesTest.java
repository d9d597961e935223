/** REFUSALS: which comes first, when there is no room, and that what is refused changes nothing (Check.refused looks at that). */
public final class RefusalEdgesTest {
    public static void main(String[] args) {
        Check.sentence("NoSuchElementException: a lot that there is not", RefusalEdgesTest::noSuchLot);
        Check.sentence("NoSuchElementException: a unit that there is not", RefusalEdgesTest::noSuchUnit);
        Check.sentence("the first that holds: NoSuchElementException before IllegalArgumentException",
                RefusalEdgesTest::noSuchBeforeArgument);
        Check.sentence("the first that holds: NoSuchElementException before IllegalStateException",
                RefusalEdgesTest::noSuchBeforeState);
        Check.sentence("the first that holds: IllegalArgumentException before IllegalStateException",
                RefusalEdgesTest::argumentBeforeState);
        Check.sentence("the first that holds: all before UnsupportedOperationException", RefusalEdgesTest::allBeforeNoRoom);
        Check.sentence("no room (lots)", RefusalEdgesTest::noRoomForLots);
        Check.sentence("the first that holds: all before no room for lots", RefusalEdgesTest::allBeforeNoRoomForLots);
        Check.sentence("no room (units)", RefusalEdgesTest::noRoomForUnits);
        Check.sentence("no room (400 rows of history in all): calls that write one", RefusalEdgesTest::noRoomForOneRow);
        Check.sentence("no room (400 rows of history in all): calls that write two", RefusalEdgesTest::noRoomForTwoRows);
        Check.sentence("no room (400 rows of history in all): calls that write none", RefusalEdgesTest::noRowNeeded);
        Check.sentence("400 rows of history in all", RefusalEdgesTest::rowsOfAllLots);
        Check.sentence("What is refused changes nothing", RefusalEdgesTest::nothingChanges);
        Check.end();
    }

    private static void noSuchLot() {
        LotRules x = Given.lots(3);
        for (int lot : Given.outside(1, 3)) {
            Check.refused(x, "block(" + lot + ")", Check.NO_SUCH, () -> x.block(lot, 1));
            Check.refused(x, "release(" + lot + ")", Check.NO_SUCH, () -> x.release(lot, 0));
            Check.refused(x, "quarantine(" + lot + ", true)", Check.NO_SUCH, () -> x.quarantine(lot, true));
            Check.refused(x, "quarantine(" + lot + ", false)", Check.NO_SUCH, () -> x.quarantine(lot, false));
            Check.refused(x, "allowed(" + lot + ")", Check.NO_SUCH, () -> x.allowed(lot, 0, 55));
            Check.refused(x, "split(" + lot + ")", Check.NO_SUCH, () -> x.split(lot));
            Check.refused(x, "join(" + lot + ", 1)", Check.NO_SUCH, () -> x.join(lot, 1));
            Check.refused(x, "join(1, " + lot + ")", Check.NO_SUCH, () -> x.join(1, lot));
            Check.refused(x, "unit(" + lot + ")", Check.NO_SUCH, () -> x.unit(lot));
            Check.refused(x, "recall(" + lot + ")", Check.NO_SUCH, () -> x.recall(lot, 0));
            Check.refused(x, "history(" + lot + ")", Check.NO_SUCH, () -> x.history(lot, 0, 0));
            Check.refused(x, "told(" + lot + ")", Check.NO_SUCH, () -> x.told(lot, 0));
        }
    }

    private static void noSuchUnit() {
        LotRules x = Given.lots(3);
        x.unit(1);
        x.unit(1);
        for (int unit : Given.outside(1, 2)) {
            Check.refused(x, "put(" + unit + ")", Check.NO_SUCH, () -> x.put(unit, 0));
            Check.refused(x, "ship(" + unit + ")", Check.NO_SUCH, () -> x.ship(unit, 0, 55));
            Check.refused(x, "where(" + unit + ")", Check.NO_SUCH, () -> x.where(unit, 0));
        }
    }

    private static void noSuchBeforeArgument() {
        LotRules x = Given.lots(1);
        x.unit(1);
        Check.refused(x, "block", Check.NO_SUCH, () -> x.block(2, 10));
        Check.refused(x, "release", Check.NO_SUCH, () -> x.release(2, 8));
        Check.refused(x, "allowed, customer", Check.NO_SUCH, () -> x.allowed(2, 8, 55));
        Check.refused(x, "allowed, day", Check.NO_SUCH, () -> x.allowed(2, 0, 36525));
        Check.refused(x, "put", Check.NO_SUCH, () -> x.put(2, 20));
        Check.refused(x, "ship, customer", Check.NO_SUCH, () -> x.ship(2, 8, 55));
        Check.refused(x, "ship, day", Check.NO_SUCH, () -> x.ship(2, 0, -1));
        Check.refused(x, "recall", Check.NO_SUCH, () -> x.recall(2, -1));
        Check.refused(x, "where", Check.NO_SUCH, () -> x.where(2, 4));
        Check.refused(x, "history, what", Check.NO_SUCH, () -> x.history(2, 0, 2));
        Check.refused(x, "history, what of no row", Check.NO_SUCH, () -> x.history(1, 2, 2));
        Check.refused(x, "history, what of a row below 0", Check.NO_SUCH, () -> x.history(1, -1, -1));
        Check.refused(x, "told", Check.NO_SUCH, () -> x.told(2, 8));
    }

    private static void noSuchBeforeState() {
        LotRules x = Given.lots(2);
        x.join(1, 2);
        Check.refused(x, "join of none into a closed lot", Check.NO_SUCH, () -> x.join(2, 3));
        Check.refused(x, "join of a closed lot into none", Check.NO_SUCH, () -> x.join(3, 2));
        Check.refused(x, "join of none into itself", Check.NO_SUCH, () -> x.join(3, 3));
        Check.refused(x, "quarantine of none, out of it", Check.NO_SUCH, () -> x.quarantine(3, false));
    }

    private static void argumentBeforeState() {
        LotRules x = Given.lots(3);
        x.unit(1);
        x.unit(3);
        x.ship(1, 0, 55);
        x.block(3, 1);
        x.join(1, 2);
        Check.refused(x, "block of a closed lot", Check.ARGUMENT, () -> x.block(2, 10));
        Check.refused(x, "release of a closed lot", Check.ARGUMENT, () -> x.release(2, 8));
        Check.refused(x, "release of one that is not blocked", Check.ARGUMENT, () -> x.release(1, -1));
        Check.refused(x, "put of a unit that is gone", Check.ARGUMENT, () -> x.put(1, 20));
        Check.refused(x, "ship of a unit that is gone, customer", Check.ARGUMENT, () -> x.ship(1, 8, 55));
        Check.refused(x, "ship of a unit that is gone, day", Check.ARGUMENT, () -> x.ship(1, 0, -1));
        Check.refused(x, "ship of a blocked lot's unit, customer", Check.ARGUMENT, () -> x.ship(2, -1, 55));
        Check.refused(x, "ship of a blocked lot's unit, day", Check.ARGUMENT, () -> x.ship(2, 0, 36525));
    }

    /** Lots 1 (open), 2 (joined into 1), 3 (blocked by reason 1), units 1 and 2 of 1 (2 gone), and no room for a row. */
    private static LotRules withoutRows() {
        LotRules x = Given.lots(4);
        x.join(1, 2);
        x.block(3, 1);
        x.right(0, 1, true);
        x.unit(1);
        x.unit(1);
        x.ship(2, 0, 55);
        Given.fillRows(x, 4, 400);
        return x;
    }

    private static void allBeforeNoRoom() {
        LotRules x = withoutRows();
        Check.refused(x, "lot: argument", Check.ARGUMENT, () -> x.lot(0, 0, 36525, 0));
        Check.refused(x, "block: no such lot", Check.NO_SUCH, () -> x.block(5, 1));
        Check.refused(x, "block: argument", Check.ARGUMENT, () -> x.block(1, 0));
        Check.refused(x, "block: not open", Check.STATE, () -> x.block(2, 1));
        Check.refused(x, "block: blocked already", Check.STATE, () -> x.block(3, 1));
        Check.refused(x, "release: no such lot", Check.NO_SUCH, () -> x.release(5, 0));
        Check.refused(x, "release: argument", Check.ARGUMENT, () -> x.release(3, 8));
        Check.refused(x, "release: not open", Check.STATE, () -> x.release(2, 0));
        Check.refused(x, "release: not blocked", Check.STATE, () -> x.release(1, 0));
        Check.refused(x, "release: none of them", Check.STATE, () -> x.release(3, 1));
        Check.refused(x, "quarantine: no such lot", Check.NO_SUCH, () -> x.quarantine(5, true));
        Check.refused(x, "quarantine: not open", Check.STATE, () -> x.quarantine(2, true));
        Check.refused(x, "quarantine: it is so", Check.STATE, () -> x.quarantine(1, false));
        Check.refused(x, "split: no such lot", Check.NO_SUCH, () -> x.split(5));
        Check.refused(x, "split: not open", Check.STATE, () -> x.split(2));
        Check.refused(x, "join: no such lot", Check.NO_SUCH, () -> x.join(1, 5));
        Check.refused(x, "join: not open", Check.STATE, () -> x.join(1, 2));
        Check.refused(x, "join: the same", Check.STATE, () -> x.join(1, 1));
        Check.refused(x, "join: other reasons", Check.STATE, () -> x.join(1, 3));
        Check.refused(x, "unit: no such lot", Check.NO_SUCH, () -> x.unit(5));
        Check.refused(x, "unit: not open", Check.STATE, () -> x.unit(2));
        Check.refused(x, "ship: no such unit", Check.NO_SUCH, () -> x.ship(3, 0, 55));
        Check.refused(x, "ship: customer", Check.ARGUMENT, () -> x.ship(1, 8, 55));
        Check.refused(x, "ship: day", Check.ARGUMENT, () -> x.ship(1, 0, -1));
        Check.refused(x, "ship: gone", Check.STATE, () -> x.ship(2, 0, 55));
        Check.refused(x, "ship: not allowed", Check.STATE, () -> x.ship(1, 0, 61));
    }

    private static void noRoomForLots() {
        LotRules x = Given.lots(39);
        Check.same("room for one", x.split(1), 40);
        Check.refused(x, "lot", Check.NO_ROOM, () -> x.lot(9, 7, 36524, 0));
        Check.refused(x, "split", Check.NO_ROOM, () -> x.split(1));
        x.join(1, 40);
        Check.same("a join needs none", x.told(40, 4), 0);
        Check.refused(x, "nor does it make any", Check.NO_ROOM, () -> x.lot(0, 0, 60, 50));
        Check.same("a unit needs none", x.unit(39), 1);
    }

    private static void allBeforeNoRoomForLots() {
        LotRules x = Given.lots(40);
        x.join(1, 40);
        Check.refused(x, "lot: good", Check.ARGUMENT, () -> x.lot(10, 0, 60, 50));
        Check.refused(x, "lot: owner", Check.ARGUMENT, () -> x.lot(0, -1, 60, 50));
        Check.refused(x, "lot: last day", Check.ARGUMENT, () -> x.lot(0, 0, -1, 50));
        Check.refused(x, "lot: arrival", Check.ARGUMENT, () -> x.lot(0, 0, 60, 36525));
        Check.refused(x, "split: no such lot", Check.NO_SUCH, () -> x.split(41));
        Check.refused(x, "split: not open", Check.STATE, () -> x.split(40));
    }

    private static void noRoomForUnits() {
        LotRules x = Given.lots(2);
        for (int unit = 1; unit <= 119; unit++) {
            x.unit(1);
        }
        Check.same("room for one", x.unit(1), 120);
        Check.refused(x, "unit", Check.NO_ROOM, () -> x.unit(1));
        x.ship(120, 0, 55);
        Check.refused(x, "one that is gone makes no room", Check.NO_ROOM, () -> x.unit(1));
        x.put(119, 0);
        Check.same("put needs none", x.where(119, 1), 0);
        Check.same("nor does a lot", x.lot(0, 0, 60, 50), 3);
        Check.same("nor a split", x.split(3), 4);
        x.join(1, 2);
        Check.refused(x, "no such lot comes first", Check.NO_SUCH, () -> x.unit(5));
        Check.refused(x, "not open comes first", Check.STATE, () -> x.unit(2));
    }

    private interface Call {
        void on(LotRules x);
    }

    /** With room for so many rows the call is done and takes them all; with a row less it is refused. */
    private static void needsRows(String what, int rows, Call call) {
        LotRules enough = beforeRows(400 - rows);
        call.on(enough);
        Check.same(what + " takes " + rows, enough.count(2), 400);
        LotRules tooFew = beforeRows(400 - rows + 1);
        Check.refused(tooFew, what, Check.NO_ROOM, () -> call.on(tooFew));
    }

    /** Lots 1 and 2 alike, 3 blocked by reasons 1 and 2, 4 in quarantine, unit 1 of lot 1. */
    private static LotRules beforeRows(int rows) {
        LotRules x = Given.lots(5);
        x.block(3, 1);
        x.block(3, 2);
        x.right(0, 1, true);
        x.right(0, 2, true);
        x.quarantine(4, true);
        x.unit(1);
        Given.fillRows(x, 5, rows);
        return x;
    }

    private static void noRoomForOneRow() {
        needsRows("lot", 1, x -> x.lot(0, 0, 60, 50));
        needsRows("block", 1, x -> x.block(1, 1));
        needsRows("release from two reasons", 1, x -> x.release(3, 0));
        needsRows("into quarantine", 1, x -> x.quarantine(1, true));
        needsRows("out of quarantine", 1, x -> x.quarantine(4, false));
        needsRows("unit", 1, x -> x.unit(1));
        needsRows("ship", 1, x -> x.ship(1, 0, 55));
    }

    private static void noRoomForTwoRows() {
        needsRows("split", 2, x -> x.split(1));
        needsRows("join", 2, x -> x.join(1, 2));
        LotRules x = beforeRows(400);
        Check.refused(x, "split without any", Check.NO_ROOM, () -> x.split(1));
        Check.refused(x, "join without any", Check.NO_ROOM, () -> x.join(1, 2));
    }

    private static void noRowNeeded() {
        LotRules x = beforeRows(400);
        Check.same("lot that is none", x.lot(0, 0, 49, 50), 0);
        x.put(1, 5);
        Check.same("put", x.where(1, 1), 5);
        x.rule(0, 0, 2);
        Check.same("rule", x.order(0, 0, 0), x.told(5, 6) == 0 ? 5 : 2);
        x.wants(0, 2);
        Check.holds("wants", !x.allowed(1, 0, 60));
        x.right(0, 1, false);
        Check.refused(x, "right", Check.NO_ROOM, () -> x.release(3, 0));
        x.right(0, 2, false);
        Check.refused(x, "no right", Check.STATE, () -> x.release(3, 0));
        Check.same("rows", x.count(2), 400);
    }

    private static void rowsOfAllLots() {
        LotRules x = Given.lots(2);
        Given.fillRows(x, 1, 201);
        Given.fillRows(x, 2, 400);
        Check.same("the last row of lot 1", x.history(1, 199, 0), 8);
        Check.refused(x, "no row more of lot 1", Check.NO_SUCH, () -> x.history(1, 200, 0));
        Check.same("the last row of lot 2", x.history(2, 199, 0), 8);
        Check.refused(x, "no row more of lot 2", Check.NO_SUCH, () -> x.history(2, 200, 0));
        Check.refused(x, "no row for either", Check.NO_ROOM, () -> x.quarantine(1, false));
        LotRules one = Given.lots(1);
        Given.fillRows(one, 1, 400);
        Check.same("all rows of one lot", one.history(1, 399, 0), 8);
    }

    /** As the face tells it; Check.refused looks at the fields, too. */
    private static void nothingChanges() {
        LotRules x = withoutRows();
        boolean in = x.told(4, 6) == 1;
        Check.refused(x, "lot", Check.NO_ROOM, () -> x.lot(0, 0, 60, 50));
        Check.refused(x, "block", Check.NO_ROOM, () -> x.block(1, 5));
        Check.refused(x, "release", Check.NO_ROOM, () -> x.release(3, 0));
        Check.refused(x, "quarantine", Check.NO_ROOM, () -> x.quarantine(4, !in));
        Check.refused(x, "split", Check.NO_ROOM, () -> x.split(1));
        Check.refused(x, "unit", Check.NO_ROOM, () -> x.unit(1));
        Check.refused(x, "ship", Check.NO_ROOM, () -> x.ship(1, 0, 55));
        int[] counts = {4, 2, 400, 1, -1};
        for (int what = 0; what < counts.length; what++) {
            Check.same("count(" + what + ")", x.count(what), counts[what]);
        }
        Check.same("reasons of 1", x.told(1, 5), 0);
        Check.same("reasons of 3", x.told(3, 5), 2);
        Check.same("quarantine of 4", x.told(4, 6), in ? 1 : 0);
        Check.same("units of 1", x.told(1, 7), 1);
        Check.same("unit 1 did not go", x.where(1, 2), -1);
        Check.refused(x, "there is no fifth lot", Check.NO_SUCH, () -> x.told(5, 0));
        Check.refused(x, "there is no third unit", Check.NO_SUCH, () -> x.where(3, 0));
    }
}
