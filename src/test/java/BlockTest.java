/** Promises 5 (right), 6 (block), 7 (release) and 8 (quarantine). */
public final class BlockTest {
    public static void main(String[] args) {
        blocks();
        releases();
        rightsAreTakenBack();
        quarantines();
        wrongNumbers();
        closedLots();
        Check.end();
    }

    private static void blocks() {
        LotRules x = new LotRules();
        x.lot(0, 0, 10, 0);
        Check.same("block(1, 1)", x.block(1, 1), 1);
        Check.same("block(1, 9)", x.block(1, 9), 2);
        Check.same("row of a block", x.history(1, 1, 0), 6);
        Check.same("its reason", x.history(1, 1, 1), 1);
        Check.same("the next one's reason", x.history(1, 2, 1), 9);
        Check.refused(x, "it blocks already", Check.STATE, () -> x.block(1, 9));
        Check.same("blocked is not taken", x.order(0, 0, 0), -1);
        Check.holds("blocked is not allowed", !x.allowed(1, 0, 5));
    }

    private static void releases() {
        LotRules x = new LotRules();
        x.lot(0, 0, 10, 0);
        x.right(7, 2, true);
        x.right(7, 3, true);
        x.right(7, 4, true);
        Check.refused(x, "not blocked", Check.STATE, () -> x.release(1, 7));
        x.block(1, 1);
        Check.refused(x, "none of them", Check.STATE, () -> x.release(1, 7));
        x.block(1, 2);
        x.block(1, 3);
        Check.refused(x, "another person", Check.STATE, () -> x.release(1, 6));
        int rows = x.count(2);
        Check.same("two of three", x.release(1, 7), 2);
        Check.same("one row for one release", x.count(2), rows + 1);
        Check.same("row of a release", x.history(1, 4, 0), 7);
        Check.same("its person", x.history(1, 4, 1), 7);
        Check.same("what still blocks", x.told(1, 5), 2);
        Check.same("a released reason may block again", x.block(1, 2), 2);
        x.right(7, 1, true);
        Check.same("the rest", x.release(1, 7), 2);
        Check.same("free", x.order(0, 0, 0), 1);
    }

    private static void rightsAreTakenBack() {
        LotRules x = new LotRules();
        x.lot(0, 0, 10, 0);
        x.block(1, 5);
        x.block(1, 6);
        x.right(0, 5, true);
        x.right(0, 6, true);
        x.right(0, 6, true);
        x.right(0, 5, false);
        x.right(0, 5, false);
        Check.same("one right is left", x.release(1, 0), 1);
        Check.same("reason 5 blocks on", x.told(1, 5), 32);
        x.right(0, 6, false);
        Check.refused(x, "no right is left", Check.STATE, () -> x.release(1, 0));
    }

    private static void quarantines() {
        LotRules x = new LotRules();
        x.lot(0, 0, 10, 0);
        Check.refused(x, "out already", Check.STATE, () -> x.quarantine(1, false));
        x.quarantine(1, true);
        Check.refused(x, "in already", Check.STATE, () -> x.quarantine(1, true));
        Check.same("not taken", x.order(0, 0, 0), -1);
        Check.holds("not allowed", !x.allowed(1, 0, 5));
        x.quarantine(1, false);
        Check.same("taken again", x.order(0, 0, 0), 1);
        Check.same("out of it", x.told(1, 6), 0);
        Check.same("row in", x.history(1, 1, 0), 8);
        Check.same("row in: number", x.history(1, 1, 1), 0);
        Check.same("row out", x.history(1, 2, 0), 9);
        Check.same("row out: number", x.history(1, 2, 1), 0);
        x.block(1, 3);
        x.quarantine(1, true);
        Check.same("a lot in quarantine may be blocked more", x.block(1, 4), 2);
    }

    private static void wrongNumbers() {
        LotRules x = new LotRules();
        x.lot(0, 0, 10, 0);
        for (int reason : new int[] {0, 10, -1, 32, Integer.MAX_VALUE}) {
            Check.refused(x, "block(1, " + reason + ")", Check.ARGUMENT, () -> x.block(1, reason));
            Check.refused(x, "right(0, " + reason + ")", Check.ARGUMENT, () -> x.right(0, reason, true));
        }
        for (int person : new int[] {-1, 8, Integer.MIN_VALUE}) {
            Check.refused(x, "release(1, " + person + ")", Check.ARGUMENT, () -> x.release(1, person));
            Check.refused(x, "right(" + person + ", 1)", Check.ARGUMENT, () -> x.right(person, 1, false));
        }
        for (int lot : new int[] {-1, 0, 2, 40, 41, Integer.MAX_VALUE}) {
            Check.refused(x, "block(" + lot + ", 0)", Check.NO_SUCH, () -> x.block(lot, 0));
            Check.refused(x, "release(" + lot + ", 8)", Check.NO_SUCH, () -> x.release(lot, 8));
            Check.refused(x, "quarantine(" + lot + ")", Check.NO_SUCH, () -> x.quarantine(lot, true));
        }
    }

    private static void closedLots() {
        LotRules x = new LotRules();
        x.lot(0, 0, 10, 0);
        x.lot(0, 0, 10, 0);
        x.block(1, 1);
        x.block(2, 1);
        x.right(0, 1, true);
        x.join(1, 2);
        Check.refused(x, "block: not open", Check.STATE, () -> x.block(2, 2));
        Check.refused(x, "block: wrong reason comes first", Check.ARGUMENT, () -> x.block(2, 0));
        Check.refused(x, "release: not open", Check.STATE, () -> x.release(2, 0));
        Check.refused(x, "release: wrong person comes first", Check.ARGUMENT, () -> x.release(2, 8));
        Check.refused(x, "quarantine: not open", Check.STATE, () -> x.quarantine(2, true));
        Check.same("the open one is released", x.release(1, 0), 1);
    }
}
