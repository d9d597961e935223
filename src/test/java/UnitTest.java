/** Promises 3 (rule: the mixture), 13 (unit), 14 (put), 15 (mixed), 16 (ship) and 18 (where). */
public final class UnitTest {
    public static void main(String[] args) {
        units();
        puts();
        mixtures();
        mixedTellsTheLast();
        mixedAsItWasThen();
        ships();
        shipsThatAreRefused();
        wrongNumbers();
        Check.end();
    }

    private static void units() {
        LotRules x = new LotRules();
        x.lot(0, 0, 60, 50);
        x.lot(0, 0, 60, 50);
        x.block(2, 1);
        x.quarantine(2, true);
        Check.same("unit(1)", x.unit(1), 1);
        Check.same("a unit of a blocked lot in quarantine", x.unit(2), 2);
        int[] due = {2, -1, -1, -1};
        for (int what = 0; what < due.length; what++) {
            Check.same("where(2, " + what + ")", x.where(2, what), due[what]);
        }
        for (int lot : new int[] {-1, 0, 3, 41}) {
            Check.refused(x, "unit(" + lot + ")", Check.NO_SUCH, () -> x.unit(lot));
        }
    }

    private static void puts() {
        LotRules x = new LotRules();
        x.lot(0, 0, 60, 50);
        x.unit(1);
        int rows = x.count(2);
        x.put(1, 0);
        Check.same("in bin 0", x.where(1, 1), 0);
        Check.refused(x, "it is there", Check.STATE, () -> x.put(1, 0));
        x.put(1, 19);
        Check.same("in bin 19", x.where(1, 1), 19);
        x.put(1, 0);
        Check.same("back in bin 0", x.where(1, 1), 0);
        Check.same("no row of history", x.count(2), rows);
        x.ship(1, 0, 50);
        Check.refused(x, "it is gone", Check.STATE, () -> x.put(1, 1));
        Check.same("no refusal because of what lies there", x.mixed(0), 0);
    }

    private static void mixtures() {
        LotRules x = new LotRules();
        int[][] lots = {{0, 0, 100}, {0, 0, 110}, {1, 0, 500}, {0, 1, 900}, {0, 0, 100}, {0, 0, 90}};
        for (int[] lot : lots) {
            x.unit(x.lot(lot[0], lot[1], lot[2], 0));
        }
        x.put(1, 5);
        x.put(3, 5);
        x.put(4, 5);
        x.put(5, 5);
        hindered(x, 2, 5, 2, 1);
        x.rule(0, 1, 9);
        hindered(x, 2, 5, 2, 1);
        x.rule(1, 1, 1000);
        hindered(x, 6, 5, 6, 1);
        x.rule(0, 1, 10);
        x.put(2, 5);
        Check.same("ten days apart with a mixture of ten", x.where(2, 1), 5);
        hindered(x, 6, 5, 6, 2);
        x.put(2, 6);
        x.put(6, 5);
        Check.same("what has left hinders no more", x.where(6, 1), 5);
        x.rule(0, 1, 0);
        Check.same("what lies there stays", x.where(6, 1), 5);
        x.put(6, 7);
        hindered(x, 6, 5, 6, 1);
        Check.same("a refused unit stays where it was", x.where(6, 1), 7);
        x.ship(1, 0, 0);
        x.ship(5, 0, 0);
        x.put(6, 5);
        Check.same("what is gone hinders no more", x.where(6, 1), 5);
    }

    private static void hindered(LotRules x, int unit, int bin, int lot, int other) {
        int before = x.where(unit, 1);
        String call = "put(" + unit + ", " + bin + ")";
        Check.refusedLeavingTrace(call, Check.STATE, () -> x.put(unit, bin));
        Check.same(call + ": mixed(0)", x.mixed(0), lot);
        Check.same(call + ": mixed(1)", x.mixed(1), other);
        Check.same(call + ": its bin", x.where(unit, 1), before);
    }

    private static void mixedTellsTheLast() {
        LotRules x = new LotRules();
        for (int until : new int[] {100, 110, 120}) {
            x.lot(0, 0, until, 0);
        }
        x.unit(3);
        x.unit(2);
        x.unit(1);
        x.put(3, 0);
        x.put(2, 1);
        hindered(x, 1, 0, 3, 1);
        hindered(x, 1, 1, 3, 2);
        x.put(1, 2);
        Check.refused(x, "a put() that is refused for another cause", Check.STATE, () -> x.put(1, 2));
        Check.refused(x, "a wrong bin", Check.ARGUMENT, () -> x.put(1, 20));
        Check.same("mixed(0) stays", x.mixed(0), 3);
        Check.same("mixed(1) stays", x.mixed(1), 2);
        x.rule(0, 1, 15);
        x.put(2, 0);
        hindered(x, 1, 0, 3, 1);
        x.rule(0, 1, 5);
        hindered(x, 1, 0, 3, 2);
        Check.refused(x, "mixed(-1)", Check.ARGUMENT, () -> x.mixed(-1));
        Check.refused(x, "mixed(2)", Check.ARGUMENT, () -> x.mixed(2));
    }

    private static void mixedAsItWasThen() {
        LotRules x = new LotRules();
        x.lot(0, 0, 100, 0);
        x.lot(0, 0, 110, 0);
        x.unit(1);
        x.unit(2);
        x.put(1, 0);
        hindered(x, 2, 0, 2, 1);
        x.split(1);
        x.split(2);
        x.join(3, 1);
        x.join(4, 2);
        Check.same("mixed(0) as it was then", x.mixed(0), 2);
        Check.same("mixed(1) as it was then", x.mixed(1), 1);
        hindered(x, 2, 0, 4, 3);
    }

    private static void ships() {
        LotRules x = new LotRules();
        x.lot(0, 0, 60, 50);
        x.unit(1);
        x.unit(1);
        x.put(1, 4);
        x.ship(1, 7, 60);
        int[] due = {1, -1, 7, 60};
        for (int what = 0; what < due.length; what++) {
            Check.same("gone: where(1, " + what + ")", x.where(1, what), due[what]);
        }
        Check.same("row", x.history(1, 3, 0), 11);
        Check.same("row: its unit", x.history(1, 3, 1), 1);
        x.ship(2, 0, 50);
        Check.same("customer 0", x.where(2, 2), 0);
        Check.refused(x, "gone to customer 0", Check.STATE, () -> x.ship(2, 0, 50));
        Check.same("gone", x.count(3), 2);
    }

    private static void shipsThatAreRefused() {
        LotRules x = new LotRules();
        x.lot(0, 0, 60, 50);
        x.unit(1);
        Check.refused(x, "before the arrival", Check.STATE, () -> x.ship(1, 0, 49));
        Check.refused(x, "behind the last day", Check.STATE, () -> x.ship(1, 0, 61));
        x.wants(0, 5);
        Check.refused(x, "too few days", Check.STATE, () -> x.ship(1, 0, 57));
        x.block(1, 1);
        Check.refused(x, "blocked", Check.STATE, () -> x.ship(1, 0, 55));
        x.right(0, 1, true);
        x.release(1, 0);
        x.quarantine(1, true);
        Check.refused(x, "in quarantine", Check.STATE, () -> x.ship(1, 0, 55));
        x.quarantine(1, false);
        x.ship(1, 0, 56);
        Check.same("just enough days", x.where(1, 3), 56);
    }

    private static void wrongNumbers() {
        LotRules x = new LotRules();
        x.lot(0, 0, 60, 50);
        x.unit(1);
        x.unit(1);
        x.ship(2, 0, 50);
        for (int unit : new int[] {-1, 0, 3, 120, 121, Integer.MAX_VALUE}) {
            Check.refused(x, "put(" + unit + ", 20)", Check.NO_SUCH, () -> x.put(unit, 20));
            Check.refused(x, "ship(" + unit + ", 8, 0)", Check.NO_SUCH, () -> x.ship(unit, 8, 0));
            Check.refused(x, "where(" + unit + ", 4)", Check.NO_SUCH, () -> x.where(unit, 4));
        }
        for (int unit = 1; unit <= 2; unit++) {
            int of = unit;
            for (int bin : new int[] {-1, 20}) {
                Check.refused(x, "put(" + of + ", " + bin + ")", Check.ARGUMENT, () -> x.put(of, bin));
            }
            for (int customer : new int[] {-1, 8}) {
                Check.refused(x, "ship: customer " + customer, Check.ARGUMENT, () -> x.ship(of, customer, 50));
            }
            for (int day : new int[] {-1, 36525}) {
                Check.refused(x, "ship: day " + day, Check.ARGUMENT, () -> x.ship(of, 0, day));
            }
            for (int what : new int[] {-1, 4}) {
                Check.refused(x, "where(" + of + ", " + what + ")", Check.ARGUMENT, () -> x.where(of, what));
            }
        }
    }
}
