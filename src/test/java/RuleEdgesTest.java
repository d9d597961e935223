/** 'Terms', from an owner's rotation to HISTORY, a test for each sentence that names a boundary or a first value. */
public final class RuleEdgesTest {
    public static void main(String[] args) {
        Check.sentence("0: the lots that are good for the shortest come first", RuleEdgesTest::shortestFirst);
        Check.sentence("1: those that arrived first", RuleEdgesTest::arrivedFirst);
        Check.sentence("2: those that arrived last", RuleEdgesTest::arrivedLast);
        Check.sentence("ROTATION: 0 at first", RuleEdgesTest::rotationAtFirst);
        Check.sentence("MIXTURE: 0 at first", RuleEdgesTest::mixtureAtFirst);
        Check.sentence("Lots that are alike so come by the day of arrival (the earlier first)", RuleEdgesTest::alikeByArrival);
        Check.sentence("then by number", RuleEdgesTest::alikeByNumber);
        Check.sentence("with rotation 2 those with the greater number first", RuleEdgesTest::greaterNumberFirst);
        Check.sentence("TAKEN may be a lot that is open", RuleEdgesTest::takenIsOpen);
        Check.sentence("TAKEN: not blocked", RuleEdgesTest::takenIsNotBlocked);
        Check.sentence("TAKEN: nor in quarantine", RuleEdgesTest::takenIsNotInQuarantine);
        Check.sentence("ALLOWED, if it may be taken", RuleEdgesTest::allowedIsTaken);
        Check.sentence("the day is from its arrival", RuleEdgesTest::allowedFromArrival);
        Check.sentence("to its last one", RuleEdgesTest::allowedToLast);
        Check.sentence("both counted, there are at least as many days as the customer WANTS", RuleEdgesTest::bothCounted);
        Check.sentence("WANTS (1 at first)", RuleEdgesTest::wantsAtFirst);
        Check.sentence("MIXING: units of lots of one good and owner", RuleEdgesTest::mixingOfOneGoodAndOwner);
        Check.sentence("differ by no more than the owner's mixture", RuleEdgesTest::mixingByNoMore);
        Check.sentence("MIXING: the owner's mixture", RuleEdgesTest::mixingOfTheOwner);
        Check.sentence("what else is there does not matter", RuleEdgesTest::mixingWithEach);
        Check.sentence("FAMILY of a lot: itself", RuleEdgesTest::familyItself);
        Check.sentence("all lots that were split from one of the family", RuleEdgesTest::familySplit);
        Check.sentence("all that were joined into one of it", RuleEdgesTest::familyJoined);
        Check.sentence("FAMILY: all lots that were split .. and all that were joined", RuleEdgesTest::familySplitAndJoined);
        Check.sentence("FAMILY: as large as can be", RuleEdgesTest::familyOfAllLots);
        Check.sentence("FAMILY: no others", RuleEdgesTest::familyNoOthers);
        Check.sentence("HISTORY: each kind with its number", RuleEdgesTest::historyKinds);
        Check.sentence("HISTORY: a unit, a unit went", RuleEdgesTest::historyOfJoinedUnits);
        Check.sentence("HISTORY: each lot has rows", RuleEdgesTest::historyOfEachLot);
        Check.end();
    }

    private static void inOrder(LotRules x, String what, int... due) {
        for (int i = 0; i < due.length; i++) {
            Check.same(what + ": order " + i, x.order(0, 0, i), due[i]);
        }
        Check.same(what + ": past the end", x.order(0, 0, due.length), -1);
    }

    private static void shortestFirst() {
        LotRules x = new LotRules();
        x.lot(0, 0, 102, 10);
        x.lot(0, 0, 100, 12);
        x.lot(0, 0, 36524, 0);
        x.lot(0, 0, 101, 11);
        x.rule(0, 0, 1);
        x.rule(0, 0, 0);
        inOrder(x, "by the last day", 2, 4, 1, 3);
    }

    private static void arrivedFirst() {
        LotRules x = new LotRules();
        x.lot(0, 0, 102, 11);
        x.lot(0, 0, 100, 12);
        x.lot(0, 0, 36524, 0);
        x.lot(0, 0, 101, 13);
        x.rule(0, 0, 1);
        inOrder(x, "by the arrival", 3, 1, 2, 4);
    }

    private static void arrivedLast() {
        LotRules x = new LotRules();
        x.lot(0, 0, 102, 11);
        x.lot(0, 0, 100, 12);
        x.lot(0, 0, 36524, 0);
        x.lot(0, 0, 101, 13);
        x.rule(0, 0, 2);
        inOrder(x, "by the arrival, backward", 4, 2, 1, 3);
    }

    private static void rotationAtFirst() {
        LotRules x = new LotRules();
        for (int owner = 0; owner <= 7; owner++) {
            x.lot(0, owner, 101, 10);
            x.lot(0, owner, 100, 11);
            x.lot(0, owner, 102, 12);
            Check.same("owner " + owner, x.order(0, owner, 0), 3 * owner + 2);
        }
    }

    private static void mixtureAtFirst() {
        LotRules x = new LotRules();
        for (int owner = 0; owner <= 7; owner++) {
            int first = 3 * owner + 1;
            x.unit(x.lot(0, owner, 100, 0));
            x.unit(x.lot(0, owner, 100, 5));
            x.unit(x.lot(0, owner, 101, 0));
            x.put(first, owner);
            x.put(first + 1, owner);
            Check.same("owner " + owner + ", no day apart", x.where(first + 1, 1), owner);
            int into = owner;
            Check.refusedLeavingTrace("owner " + owner + ", a day apart", Check.STATE, () -> x.put(first + 2, into));
        }
    }

    private static void alikeByArrival() {
        LotRules x = new LotRules();
        x.lot(0, 0, 100, 12);
        x.lot(0, 0, 100, 11);
        x.lot(0, 0, 99, 13);
        x.lot(0, 0, 100, 10);
        inOrder(x, "the same last day", 3, 4, 2, 1);
    }

    private static void alikeByNumber() {
        LotRules x = new LotRules();
        x.lot(0, 0, 101, 10);
        x.lot(0, 0, 100, 10);
        x.lot(0, 0, 101, 10);
        x.split(2);
        inOrder(x, "the same last day and arrival", 2, 4, 1, 3);
        x.rule(0, 0, 1);
        inOrder(x, "rotation 1 looks at no last day", 1, 2, 3, 4);
    }

    private static void greaterNumberFirst() {
        LotRules x = new LotRules();
        x.lot(0, 0, 101, 10);
        x.lot(0, 0, 100, 10);
        x.lot(0, 0, 102, 11);
        x.lot(0, 0, 101, 10);
        x.split(3);
        x.rule(0, 0, 2);
        inOrder(x, "the same arrival", 5, 3, 4, 2, 1);
    }

    private static void takenIsOpen() {
        LotRules x = Given.lots(3);
        x.join(3, 1);
        inOrder(x, "without the joined one", 2, 3);
    }

    private static void takenIsNotBlocked() {
        for (int reason = 1; reason <= 9; reason++) {
            LotRules x = Given.lots(3);
            x.block(2, reason);
            inOrder(x, "without one that reason " + reason + " blocks", 1, 3);
            x.right(0, reason, true);
            x.release(2, 0);
            inOrder(x, "released from reason " + reason, 1, 2, 3);
        }
    }

    private static void takenIsNotInQuarantine() {
        LotRules x = Given.lots(3);
        x.quarantine(1, true);
        inOrder(x, "without the one in quarantine", 2, 3);
        x.quarantine(1, false);
        inOrder(x, "out of it", 1, 2, 3);
    }

    private static void allowedIsTaken() {
        LotRules x = Given.lots(5);
        x.block(2, 9);
        x.quarantine(3, true);
        x.join(5, 4);
        boolean[] due = {true, false, false, false, true};
        for (int lot = 1; lot <= 5; lot++) {
            Check.holds("lot " + lot, x.allowed(lot, 0, 55) == due[lot - 1]);
        }
    }

    private static void allowedFromArrival() {
        LotRules x = Given.lots(1);
        Check.holds("a day before", !x.allowed(1, 0, 49));
        Check.holds("that day", x.allowed(1, 0, 50));
        Check.holds("long before", !x.allowed(1, 0, 0));
    }

    private static void allowedToLast() {
        LotRules x = Given.lots(1);
        Check.holds("that day", x.allowed(1, 0, 60));
        Check.holds("a day behind", !x.allowed(1, 0, 61));
        Check.holds("long behind", !x.allowed(1, 0, 36524));
    }

    private static void bothCounted() {
        LotRules x = Given.lots(1);
        x.wants(0, 2);
        Check.holds("two days at the day before the last", x.allowed(1, 0, 59));
        Check.holds("one day at the last", !x.allowed(1, 0, 60));
        x.wants(0, 11);
        Check.holds("all eleven at the arrival", x.allowed(1, 0, 50));
        Check.holds("ten a day later", !x.allowed(1, 0, 51));
        x.wants(0, 12);
        Check.holds("twelve there are not", !x.allowed(1, 0, 50));
        Check.holds("not even before the arrival", !x.allowed(1, 0, 49));
    }

    private static void wantsAtFirst() {
        LotRules x = Given.lots(1);
        for (int customer = 0; customer <= 7; customer++) {
            Check.holds("customer " + customer + " takes the last day", x.allowed(1, customer, 60));
            Check.holds("but none behind it", !x.allowed(1, customer, 61));
        }
    }

    private static void mixingOfOneGoodAndOwner() {
        LotRules x = new LotRules();
        x.unit(x.lot(0, 0, 100, 0));
        x.unit(x.lot(1, 0, 101, 0));
        x.unit(x.lot(0, 1, 101, 0));
        x.unit(x.lot(1, 1, 101, 0));
        x.unit(x.lot(0, 0, 101, 0));
        x.put(1, 0);
        x.put(2, 0);
        Check.same("another good", x.where(2, 1), 0);
        x.put(3, 0);
        Check.same("another owner", x.where(3, 1), 0);
        x.put(4, 0);
        Check.same("both", x.where(4, 1), 0);
        Check.refusedLeavingTrace("neither", Check.STATE, () -> x.put(5, 0));
    }

    private static void mixingByNoMore() {
        LotRules x = Given.unitsWithLastDays(100, 107, 108, 93, 92);
        x.rule(0, 1, 7);
        x.put(1, 0);
        Check.refusedLeavingTrace("a day too late", Check.STATE, () -> x.put(3, 0));
        Check.refusedLeavingTrace("a day too early", Check.STATE, () -> x.put(5, 0));
        x.put(2, 0);
        Check.same("just late enough", x.where(2, 1), 0);
        x.put(2, 1);
        x.put(4, 0);
        Check.same("just early enough", x.where(4, 1), 0);
        LotRules far = Given.unitsWithLastDays(0, 36524);
        far.rule(0, 1, 1000);
        far.put(1, 0);
        Check.refusedLeavingTrace("as late as can be", Check.STATE, () -> far.put(2, 0));
        far.put(2, 1);
        Check.refusedLeavingTrace("as early as can be", Check.STATE, () -> far.put(1, 1));
    }

    private static void mixingOfTheOwner() {
        LotRules x = new LotRules();
        x.unit(x.lot(0, 0, 100, 0));
        x.unit(x.lot(0, 0, 105, 0));
        x.unit(x.lot(0, 1, 100, 0));
        x.unit(x.lot(0, 1, 105, 0));
        x.rule(1, 1, 5);
        x.put(1, 0);
        x.put(3, 0);
        x.put(4, 0);
        Check.same("owner 1 mixes", x.where(4, 1), 0);
        Check.refusedLeavingTrace("owner 0 does not", Check.STATE, () -> x.put(2, 0));
    }

    private static void mixingWithEach() {
        LotRules x = Given.unitsWithLastDays(100, 104, 108, 112, 104);
        x.rule(0, 1, 4);
        x.put(2, 0);
        x.put(3, 0);
        Check.refusedLeavingTrace("fit for one of two", Check.STATE, () -> x.put(1, 0));
        Check.same("with which", x.mixed(1), 3);
        Check.refusedLeavingTrace("fit for the other of two", Check.STATE, () -> x.put(4, 0));
        Check.same("with which", x.mixed(1), 2);
        x.rule(0, 1, 0);
        Check.refusedLeavingTrace("the rule is asked now", Check.STATE, () -> x.put(5, 0));
        Check.same("with which", x.mixed(1), 3);
        x.put(3, 1);
        x.put(5, 0);
        Check.same("fit for all that are left", x.where(5, 1), 0);
        Check.same("lots that do not fit lie on in another bin", x.where(3, 1), 1);
    }

    private static void recalled(LotRules x, String what, int lot, int... due) {
        for (int i = 0; i < due.length; i++) {
            Check.same(what + ": recall(" + lot + ", " + i + ")", x.recall(lot, i), due[i]);
        }
        Check.same(what + ": recall(" + lot + ") past the end", x.recall(lot, due.length), -1);
    }

    private static void familyItself() {
        LotRules x = Given.lots(2);
        x.unit(2);
        x.unit(1);
        recalled(x, "its own unit", 1, 2);
        recalled(x, "its own unit", 2, 1);
    }

    private static void familySplit() {
        LotRules x = Given.lots(1);
        x.split(1);
        x.split(2);
        x.split(1);
        for (int lot = 4; lot >= 1; lot--) {
            x.unit(lot);
        }
        recalled(x, "parts and their parts", 1, 1, 2, 3, 4);
        recalled(x, "a part and its part", 2, 2, 3);
        x.split(3);
        x.unit(5);
        recalled(x, "a part of a part's part", 1, 1, 2, 3, 4, 5);
    }

    private static void familyJoined() {
        LotRules x = Given.lots(4);
        for (int lot = 4; lot >= 1; lot--) {
            x.unit(lot);
        }
        x.split(4);
        x.unit(5);
        x.join(3, 4);
        x.join(2, 3);
        x.join(1, 2);
        recalled(x, "joined, what was joined into that, and the parts of it", 1, 1, 2, 3, 4, 5);
        recalled(x, "from the middle", 3, 1, 2, 5);
    }

    private static void familySplitAndJoined() {
        LotRules x = Given.lots(4);
        x.split(1);
        x.split(1);
        for (int lot = 6; lot >= 2; lot--) {
            x.unit(lot);
        }
        x.join(1, 2);
        x.join(1, 4);
        x.split(1);
        x.unit(7);
        recalled(x, "every part, and every one that was joined", 1, 1, 2, 3, 5, 6);
        x.join(7, 1);
        recalled(x, "a part into which its whole was joined", 7, 1, 2, 3, 5, 6);
        recalled(x, "and the whole", 1, 1, 2, 3, 5, 6);
    }

    private static void familyOfAllLots() {
        LotRules x = Given.lots(1);
        for (int lot = 1; lot <= 39; lot++) {
            x.split(lot);
        }
        x.unit(40);
        x.unit(20);
        recalled(x, "39 splits", 1, 1, 2);
        recalled(x, "20 splits", 20, 1, 2);
        recalled(x, "from behind there", 21, 1);
        LotRules y = Given.lots(40);
        y.unit(40);
        y.unit(1);
        for (int lot = 40; lot > 1; lot--) {
            y.join(lot - 1, lot);
        }
        recalled(y, "39 joins", 1, 1, 2);
        recalled(y, "the lot that was joined first", 40, 1);
        recalled(y, "the lots that were joined next", 39, 1);
    }

    private static void familyNoOthers() {
        LotRules x = Given.lots(3);
        x.split(1);
        x.split(1);
        for (int lot = 1; lot <= 5; lot++) {
            x.unit(lot);
        }
        recalled(x, "a part: not what it was split from, nor the other part", 4, 4);
        x.join(2, 4);
        recalled(x, "a joined one: not what it was joined into", 4, 4);
        x.unit(2);
        recalled(x, "nor that one's units afterwards", 4, 4);
        recalled(x, "a stranger", 3, 3);
        recalled(x, "what a part was joined into is no part", 1, 1, 4, 5);
    }

    private static void row(LotRules x, int lot, int i, int kind, int number) {
        Check.same("history(" + lot + ", " + i + "): kind", x.history(lot, i, 0), kind);
        Check.same("history(" + lot + ", " + i + "): number", x.history(lot, i, 1), number);
    }

    private static void historyKinds() {
        LotRules x = Given.lots(2);
        x.right(6, 7, true);
        x.block(2, 7);
        x.release(2, 6);
        x.quarantine(2, true);
        x.quarantine(2, false);
        x.unit(1);
        x.unit(2);
        x.ship(2, 4, 55);
        x.split(2);
        x.join(2, 1);
        int[][] due = {{1, 0}, {6, 7}, {7, 6}, {8, 0}, {9, 0}, {10, 2}, {11, 2}, {3, 3}, {4, 1}};
        for (int i = 0; i < due.length; i++) {
            row(x, 2, i, due[i][0], due[i][1]);
        }
        row(x, 3, 0, 2, 2);
        row(x, 1, 0, 1, 0);
        row(x, 1, 1, 10, 1);
        row(x, 1, 2, 5, 2);
        Check.same("rows in all", x.count(2), 13);
    }

    private static void historyOfJoinedUnits() {
        LotRules x = Given.lots(2);
        x.unit(2);
        x.join(1, 2);
        x.ship(1, 0, 55);
        row(x, 2, 1, 10, 1);
        row(x, 1, 2, 11, 1);
        Check.refused(x, "it went from its new lot", Check.NO_SUCH, () -> x.history(2, 3, 0));
    }

    private static void historyOfEachLot() {
        LotRules x = Given.lots(3);
        for (int lot = 3; lot >= 1; lot--) {
            x.unit(lot);
            x.block(lot, lot);
        }
        for (int lot = 1; lot <= 3; lot++) {
            int of = lot;
            row(x, lot, 0, 1, 0);
            row(x, lot, 1, 10, 4 - lot);
            row(x, lot, 2, 6, lot);
            Check.refused(x, "no row of another lot", Check.NO_SUCH, () -> x.history(of, 3, 0));
        }
    }
}
