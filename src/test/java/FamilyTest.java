/** Promises 11 (split), 12 (join), 17 (recall) and 19 (history). */
public final class FamilyTest {
    public static void main(String[] args) {
        splits();
        joins();
        joinsThatAreRefused();
        joinsOfLotsAlike();
        recallsAFamily();
        recallsAllThatWasSplit();
        recallsThroughAPartJoinedBack();
        recallsARing();
        recallsThroughManyGenerations();
        histories();
        Check.end();
    }

    private static void splits() {
        LotRules x = new LotRules();
        x.lot(3, 4, 60, 50);
        x.block(1, 2);
        x.block(1, 7);
        x.quarantine(1, true);
        x.unit(1);
        int rows = x.count(2);
        Check.same("split(1)", x.split(1), 2);
        Check.same("two rows", x.count(2), rows + 2);
        for (int what = 0; what <= 6; what++) {
            Check.same("alike in " + what, x.told(2, what), x.told(1, what));
        }
        Check.same("without units", x.told(2, 7), 0);
        Check.same("the old one keeps its unit", x.told(1, 7), 1);
        Check.same("split from", x.history(2, 0, 0), 2);
        Check.same("from which", x.history(2, 0, 1), 1);
        Check.refused(x, "nothing else in its history", Check.NO_SUCH, () -> x.history(2, 1, 0));
        Check.same("split off", x.history(1, 5, 0), 3);
        Check.same("which one", x.history(1, 5, 1), 2);
        x.quarantine(1, false);
        x.right(0, 2, true);
        x.release(1, 0);
        Check.same("each lot is blocked for itself", x.told(2, 5), 4 + 128);
        Check.same("each lot is in quarantine for itself", x.told(2, 6), 1);
        Check.refused(x, "split(0)", Check.NO_SUCH, () -> x.split(0));
        Check.refused(x, "split(3)", Check.NO_SUCH, () -> x.split(3));
    }

    private static void joins() {
        LotRules x = new LotRules();
        x.lot(0, 0, 60, 50);
        x.lot(0, 0, 60, 40);
        x.unit(2);
        x.unit(2);
        x.unit(1);
        x.put(1, 19);
        x.ship(2, 3, 55);
        x.join(1, 2);
        Check.same("unit 1 is of lot 1", x.where(1, 0), 1);
        Check.same("unit 1 lies where it lay", x.where(1, 1), 19);
        Check.same("unit 2, gone, is of lot 1", x.where(2, 0), 1);
        Check.same("unit 2 is gone as it was", x.where(2, 2), 3);
        Check.same("units left of 1", x.told(1, 7), 2);
        Check.same("units left of 2", x.told(2, 7), 0);
        Check.same("1 is open", x.told(1, 4), 1);
        Check.same("2 is not", x.told(2, 4), 0);
        Check.same("the arrival stays", x.told(1, 3), 50);
        Check.same("joined by", x.history(1, 2, 0), 4);
        Check.same("by which", x.history(1, 2, 1), 2);
        Check.same("joined into", x.history(2, 4, 0), 5);
        Check.same("into which", x.history(2, 4, 1), 1);
        Check.refused(x, "unit of a closed lot", Check.STATE, () -> x.unit(2));
        Check.refused(x, "split of a closed lot", Check.STATE, () -> x.split(2));
        x.ship(1, 0, 55);
        Check.same("a unit's later way stands with its new lot", x.history(1, 3, 0), 11);
    }

    private static void joinsThatAreRefused() {
        LotRules x = new LotRules();
        x.lot(0, 0, 60, 50);
        x.lot(1, 0, 60, 50);
        x.lot(0, 1, 60, 50);
        x.lot(0, 0, 61, 50);
        x.lot(0, 0, 60, 50);
        x.block(5, 1);
        x.lot(0, 0, 60, 50);
        x.quarantine(6, true);
        x.lot(0, 0, 60, 50);
        x.join(1, 7);
        for (int other = 1; other <= 7; other++) {
            int with = other;
            Check.refused(x, "join(1, " + with + ")", Check.STATE, () -> x.join(1, with));
            Check.refused(x, "join(" + with + ", 1)", Check.STATE, () -> x.join(with, 1));
        }
        x.lot(0, 0, 60, 50);
        x.block(8, 2);
        Check.refused(x, "other reasons", Check.STATE, () -> x.join(5, 8));
        for (int none : new int[] {-1, 0, 9, 41}) {
            Check.refused(x, "join(7, " + none + ")", Check.NO_SUCH, () -> x.join(7, none));
            Check.refused(x, "join(" + none + ", 7)", Check.NO_SUCH, () -> x.join(none, 7));
            Check.refused(x, "join(" + none + ", " + none + ")", Check.NO_SUCH, () -> x.join(none, none));
        }
    }

    private static void joinsOfLotsAlike() {
        LotRules x = new LotRules();
        for (int lot = 1; lot <= 2; lot++) {
            x.lot(0, 0, 60, 50);
            x.block(lot, 3);
            x.block(lot, 4);
            x.quarantine(lot, true);
        }
        x.join(2, 1);
        Check.same("the joined one blocks on", x.told(2, 5), 8 + 16);
        Check.same("and stays in quarantine", x.told(2, 6), 1);
        Check.same("1 was joined into 2", x.told(1, 4), 0);
    }

    private static void recallsAFamily() {
        LotRules x = new LotRules();
        x.lot(0, 0, 60, 50);
        x.split(1);
        x.split(2);
        x.lot(0, 0, 60, 50);
        x.lot(0, 0, 60, 50);
        x.unit(5);
        x.unit(4);
        x.unit(3);
        x.unit(1);
        x.unit(2);
        x.ship(2, 0, 55);
        x.join(2, 4);
        x.unit(2);
        recalled(x, 1, 2, 3, 4, 5, 6);
        recalled(x, 2, 2, 3, 5, 6);
        recalled(x, 3, 3);
        recalled(x, 4, 2);
        recalled(x, 5, 1);
        x.join(5, 2);
        recalled(x, 5, 1, 2, 3, 5, 6);
        recalled(x, 2, 2, 3, 5, 6);
        x.unit(5);
        recalled(x, 2, 2, 3, 5, 6);
        recalled(x, 1, 2, 3, 4, 5, 6);
        Check.same("far past the end", x.recall(1, Integer.MAX_VALUE), -1);
        Check.refused(x, "recall(1, -1)", Check.ARGUMENT, () -> x.recall(1, -1));
        Check.refused(x, "recall(0, -1)", Check.NO_SUCH, () -> x.recall(0, -1));
        Check.refused(x, "recall(6, 0)", Check.NO_SUCH, () -> x.recall(6, 0));
    }

    private static void recallsAllThatWasSplit() {
        LotRules x = new LotRules();
        x.lot(0, 0, 60, 50);
        x.split(1);
        x.split(1);
        x.lot(0, 0, 60, 50);
        x.unit(2);
        x.unit(3);
        x.unit(4);
        x.join(1, 4);
        recalled(x, 1, 1, 2, 3);
    }

    private static void recallsThroughAPartJoinedBack() {
        LotRules x = new LotRules();
        x.lot(0, 0, 60, 50);
        x.split(1);
        x.split(2);
        x.unit(3);
        x.join(1, 2);
        recalled(x, 1, 1);
        recalled(x, 2, 1);
        recalled(x, 3, 1);
    }

    private static void recallsARing() {
        LotRules x = new LotRules();
        x.lot(0, 0, 60, 50);
        x.unit(1);
        x.split(1);
        x.unit(2);
        x.join(2, 1);
        recalled(x, 1, 1, 2);
        recalled(x, 2, 1, 2);
        x.unit(2);
        recalled(x, 1, 1, 2, 3);
    }

    private static void recallsThroughManyGenerations() {
        LotRules x = new LotRules();
        x.lot(0, 0, 60, 50);
        for (int lot = 1; lot < 20; lot++) {
            x.split(lot);
        }
        // Lots of the other line are joined downward, so kinship runs against the numbers, too.
        for (int lot = 21; lot <= 40; lot++) {
            x.lot(0, 0, 60, 50);
        }
        x.unit(21);
        for (int lot = 21; lot < 40; lot++) {
            x.join(lot + 1, lot);
        }
        x.join(20, 40);
        x.unit(20);
        recalled(x, 1, 1, 2);
        recalled(x, 40, 1);
        recalled(x, 30, 1);
        recalled(x, 20, 1, 2);
    }

    private static void recalled(LotRules x, int lot, int... due) {
        for (int i = 0; i < due.length; i++) {
            Check.same("recall(" + lot + ", " + i + ")", x.recall(lot, i), due[i]);
        }
        Check.same("recall(" + lot + ", past the end)", x.recall(lot, due.length), -1);
    }

    private static void histories() {
        LotRules x = new LotRules();
        x.lot(0, 0, 60, 50);
        x.lot(0, 0, 60, 50);
        x.unit(2);
        x.unit(1);
        x.ship(2, 7, 50);
        Check.same("a unit", x.history(1, 1, 0), 10);
        Check.same("its number", x.history(1, 1, 1), 2);
        Check.same("it went", x.history(1, 2, 0), 11);
        Check.same("its number", x.history(1, 2, 1), 2);
        Check.same("the other lot's unit", x.history(2, 1, 1), 1);
        for (int row : new int[] {-1, 3, 400, Integer.MIN_VALUE, Integer.MAX_VALUE}) {
            Check.refused(x, "history(1, " + row + ", 0)", Check.NO_SUCH, () -> x.history(1, row, 0));
            Check.refused(x, "history(1, " + row + ", 2)", Check.NO_SUCH, () -> x.history(1, row, 2));
        }
        for (int what : new int[] {-1, 2}) {
            Check.refused(x, "history(1, 0, " + what + ")", Check.ARGUMENT, () -> x.history(1, 0, what));
        }
        Check.refused(x, "history(0, 0, 0)", Check.NO_SUCH, () -> x.history(0, 0, 0));
        Check.refused(x, "history(3, 0, 2)", Check.NO_SUCH, () -> x.history(3, 0, 2));
    }
}
