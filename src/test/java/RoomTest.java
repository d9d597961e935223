/** The room: 40 lots, 120 units, 400 rows of history in all; and that every other refusal comes before it. */
public final class RoomTest {
    public static void main(String[] args) {
        roomForLots();
        roomForUnits();
        noRoomForRows();
        oneRowLeft();
        twoRowsLeft();
        Check.end();
    }

    private static void roomForLots() {
        LotRules x = new LotRules();
        for (int lot = 1; lot <= 20; lot++) {
            Check.same("a lot", x.lot(0, 0, 10, 0), 2 * lot - 1);
            Check.same("a split", x.split(lot), 2 * lot);
        }
        Check.refused(x, "lot", Check.NO_ROOM, () -> x.lot(0, 0, 10, 0));
        Check.refused(x, "split", Check.NO_ROOM, () -> x.split(40));
        x.join(1, 2);
        Check.refused(x, "a joined lot keeps its number", Check.NO_ROOM, () -> x.split(1));
        Check.refused(x, "split: not open comes first", Check.STATE, () -> x.split(2));
        Check.refused(x, "split: no such lot comes first", Check.NO_SUCH, () -> x.split(41));
    }

    private static void roomForUnits() {
        LotRules x = new LotRules();
        x.lot(0, 0, 10, 0);
        x.lot(0, 0, 10, 0);
        for (int unit = 1; unit <= 120; unit++) {
            Check.same("a unit", x.unit(1 + unit % 2), unit);
        }
        Check.refused(x, "unit", Check.NO_ROOM, () -> x.unit(1));
        Check.same("the last unit", x.recall(1, 59), 120);
        x.ship(120, 0, 5);
        Check.refused(x, "a unit that is gone keeps its number", Check.NO_ROOM, () -> x.unit(1));
        x.join(2, 1);
        Check.refused(x, "unit: not open comes first", Check.STATE, () -> x.unit(1));
        Check.refused(x, "unit: no such lot comes first", Check.NO_SUCH, () -> x.unit(3));
    }

    /** Lots 1 to 4 (2 joined into 1, 3 blocked by reason 1, 4 free), units 1 (of 1) and 2 (gone), and so many rows. */
    private static LotRules withRows(int rows) {
        LotRules x = new LotRules();
        for (int lot = 1; lot <= 4; lot++) {
            x.lot(0, 0, 10, 0);
        }
        x.join(1, 2);
        x.block(3, 1);
        x.right(0, 1, true);
        x.unit(1);
        x.unit(1);
        x.ship(2, 0, 5);
        Given.fillRows(x, 4, rows);
        return x;
    }

    private static void noRoomForRows() {
        LotRules x = withRows(400);
        Check.same("400 rows", x.count(2), 400);
        boolean in = x.told(4, 6) == 1;
        Check.refused(x, "lot", Check.NO_ROOM, () -> x.lot(0, 0, 10, 0));
        Check.refused(x, "block", Check.NO_ROOM, () -> x.block(1, 1));
        Check.refused(x, "release", Check.NO_ROOM, () -> x.release(3, 0));
        Check.refused(x, "quarantine", Check.NO_ROOM, () -> x.quarantine(4, !in));
        Check.refused(x, "split", Check.NO_ROOM, () -> x.split(1));
        Check.refused(x, "unit", Check.NO_ROOM, () -> x.unit(1));
        Check.refused(x, "ship", Check.NO_ROOM, () -> x.ship(1, 0, 5));
        Check.same("lot: last day before arrival", x.lot(0, 0, 4, 5), 0);
        Check.refused(x, "lot: argument", Check.ARGUMENT, () -> x.lot(0, 8, 10, 0));
        Check.refused(x, "block: state", Check.STATE, () -> x.block(3, 1));
        Check.refused(x, "block: argument", Check.ARGUMENT, () -> x.block(3, 10));
        Check.refused(x, "release: state", Check.STATE, () -> x.release(3, 1));
        Check.refused(x, "quarantine: state", Check.STATE, () -> x.quarantine(4, in));
        Check.refused(x, "split: state", Check.STATE, () -> x.split(2));
        Check.refused(x, "join: state", Check.STATE, () -> x.join(1, 2));
        Check.refused(x, "unit: state", Check.STATE, () -> x.unit(2));
        Check.refused(x, "ship: gone", Check.STATE, () -> x.ship(2, 0, 5));
        Check.refused(x, "ship: not allowed", Check.STATE, () -> x.ship(1, 0, 11));
        x.put(1, 3);
        Check.same("put needs no row", x.where(1, 1), 3);
        Check.refused(x, "no such row when all are written", Check.NO_SUCH, () -> x.history(1, 399, 0));
    }

    private static void oneRowLeft() {
        LotRules x = withRows(399);
        Check.refused(x, "a split takes two rows", Check.NO_ROOM, () -> x.split(1));
        LotRules twins = new LotRules();
        twins.lot(0, 0, 10, 0);
        twins.lot(0, 0, 10, 0);
        twins.lot(0, 0, 10, 0);
        Given.fillRows(twins, 3, 399);
        Check.refused(twins, "a join takes two rows", Check.NO_ROOM, () -> twins.join(1, 2));
        Check.same("a lot takes one", x.lot(0, 0, 10, 0), 5);
        Check.same("block takes one", withRows(399).block(1, 1), 1);
        Check.same("release takes one", withRows(399).release(3, 0), 1);
        Check.same("unit takes one", withRows(399).unit(1), 3);
        LotRules y = withRows(399);
        y.ship(1, 0, 5);
        Check.same("ship takes one", y.count(2), 400);
        LotRules z = withRows(399);
        z.quarantine(1, true);
        Check.same("quarantine takes one", z.history(1, 5, 0), 8);
    }

    private static void twoRowsLeft() {
        LotRules x = withRows(398);
        Check.same("a split takes two rows", x.split(1), 5);
        Check.same("400 rows", x.count(2), 400);
        LotRules y = withRows(396);
        y.split(1);
        y.join(1, 5);
        Check.same("a join takes two rows", y.count(2), 400);
    }
}
