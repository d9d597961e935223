/** Promises 1 (a new object), 2 (lot), 20 (told) and 23 (count). */
public final class LotTest {
    public static void main(String[] args) {
        newObject();
        lotsAreNumbered();
        lastDayBeforeArrival();
        wrongNumbers();
        toldOfALot();
        counts();
        Check.end();
    }

    private static void newObject() {
        LotRules x = new LotRules();
        for (int what = 0; what <= 3; what++) {
            Check.same("new: count(" + what + ")", x.count(what), 0);
        }
        Check.same("new: order", x.order(0, 0, 0), -1);
        Check.same("new: mixed(0)", x.mixed(0), 0);
        Check.same("new: mixed(1)", x.mixed(1), 0);
        Check.refused(x, "new: told(1, 0)", Check.NO_SUCH, () -> x.told(1, 0));
        Check.refused(x, "new: where(1, 0)", Check.NO_SUCH, () -> x.where(1, 0));
        x.lot(0, 0, 10, 0);
        for (int reason = 1; reason <= 9; reason++) {
            x.block(1, reason);
        }
        for (int person = 0; person <= 7; person++) {
            int who = person;
            Check.refused(x, "new: release(1, " + who + ")", Check.STATE, () -> x.release(1, who));
        }
    }

    private static void lotsAreNumbered() {
        LotRules x = new LotRules();
        Check.same("first lot", x.lot(0, 0, 0, 0), 1);
        Check.same("second lot", x.lot(9, 7, 36524, 36524), 2);
        Check.same("third lot", x.lot(9, 7, 36524, 0), 3);
        Check.same("made", x.history(3, 0, 0), 1);
        Check.same("made: number", x.history(3, 0, 1), 0);
        Check.refused(x, "one row alone", Check.NO_SUCH, () -> x.history(3, 1, 0));
    }

    private static void lastDayBeforeArrival() {
        LotRules x = new LotRules();
        String before = Check.stateOf(x);
        Check.same("last day before arrival", x.lot(0, 0, 9, 10), 0);
        Check.holds("there is no such lot", before.equals(Check.stateOf(x)));
        Check.same("last day is the arrival", x.lot(0, 0, 10, 10), 1);
        while (x.count(0) < 40) {
            x.lot(0, 0, 10, 10);
        }
        Check.same("last day before arrival, no room", x.lot(0, 0, 9, 10), 0);
        Check.refused(x, "no room", Check.NO_ROOM, () -> x.lot(0, 0, 10, 10));
        Check.refused(x, "wrong good, no room", Check.ARGUMENT, () -> x.lot(10, 0, 10, 10));
    }

    private static void wrongNumbers() {
        LotRules x = new LotRules();
        int[][] wrong = {
            {-1, 0, 5, 0}, {10, 0, 5, 0}, {0, -1, 5, 0}, {0, 8, 5, 0},
            {0, 0, -1, 0}, {0, 0, 36525, 0}, {0, 0, 5, -1}, {0, 0, 5, 36525},
            {0, 0, -1, -2}, {10, 0, 4, 5}, {Integer.MIN_VALUE, 0, 5, 0}, {0, Integer.MAX_VALUE, 5, 0},
        };
        for (int[] w : wrong) {
            Check.refused(x, "lot(" + w[0] + ", " + w[1] + ", " + w[2] + ", " + w[3] + ")", Check.ARGUMENT,
                    () -> x.lot(w[0], w[1], w[2], w[3]));
        }
    }

    private static void toldOfALot() {
        LotRules x = new LotRules();
        x.lot(0, 0, 7, 7);
        x.lot(4, 5, 600, 500);
        int[] due = {4, 5, 600, 500, 1, 0, 0, 0};
        for (int what = 0; what < due.length; what++) {
            Check.same("told(2, " + what + ")", x.told(2, what), due[what]);
        }
        x.unit(2);
        x.unit(2);
        x.unit(1);
        Check.same("units of the lot", x.told(2, 7), 2);
        x.ship(1, 0, 550);
        Check.same("units that are not gone", x.told(2, 7), 1);
        x.block(2, 1);
        x.block(2, 9);
        Check.same("reasons as bits", x.told(2, 5), 2 + 512);
        x.quarantine(2, true);
        Check.same("in quarantine", x.told(2, 6), 1);
        Check.refused(x, "told(2, -1)", Check.ARGUMENT, () -> x.told(2, -1));
        Check.refused(x, "told(2, 8)", Check.ARGUMENT, () -> x.told(2, 8));
        Check.refused(x, "told(0, 0)", Check.NO_SUCH, () -> x.told(0, 0));
        Check.refused(x, "told(-1, 0)", Check.NO_SUCH, () -> x.told(-1, 0));
        Check.refused(x, "told(3, 8)", Check.NO_SUCH, () -> x.told(3, 8));
    }

    private static void counts() {
        LotRules x = new LotRules();
        x.lot(0, 0, 10, 0);
        x.lot(0, 0, 10, 0);
        x.unit(1);
        x.unit(1);
        x.unit(2);
        x.ship(3, 0, 0);
        Check.same("lots", x.count(0), 2);
        Check.same("units", x.count(1), 3);
        Check.same("rows", x.count(2), 6);
        Check.same("gone", x.count(3), 1);
        x.join(1, 2);
        Check.same("lots count when joined, too", x.count(0), 2);
        Check.same("rows of a join", x.count(2), 8);
        for (int what : new int[] {-1, 4, Integer.MIN_VALUE, Integer.MAX_VALUE}) {
            Check.same("count(" + what + ")", x.count(what), -1);
        }
    }
}
