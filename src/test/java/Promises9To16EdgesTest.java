/** Promises 9 to 16 (order to ship), a test for each sentence that names a boundary. */
public final class Promises9To16EdgesTest {
    public static void main(String[] args) {
        Check.sentence("9: The i-th lot of a good and owner", Promises9To16EdgesTest::orderOfGoodAndOwner);
        Check.sentence("9: that may be taken", Promises9To16EdgesTest::orderOfWhatMayBeTaken);
        Check.sentence("9: -1 if there are not so many", Promises9To16EdgesTest::orderPastTheEnd);
        Check.sentence("9: IllegalArgumentException also if i is below 0", Promises9To16EdgesTest::orderBelow);
        Check.sentence("10: Whether a lot is allowed", Promises9To16EdgesTest::allowed);
        Check.sentence("11: alike in all (blocked and in quarantine as it is)", Promises9To16EdgesTest::splitAlike);
        Check.sentence("11: without units", Promises9To16EdgesTest::splitWithoutUnits);
        Check.sentence("11: its number", Promises9To16EdgesTest::splitNumber);
        Check.sentence("11: IllegalStateException: not open", Promises9To16EdgesTest::splitNotOpen);
        Check.sentence("12: its units are of that from now on", Promises9To16EdgesTest::joinUnits);
        Check.sentence("12: (those that went, too)", Promises9To16EdgesTest::joinUnitsThatWent);
        Check.sentence("12: IllegalStateException: one is not open", Promises9To16EdgesTest::joinNotOpen);
        Check.sentence("12: they are the same", Promises9To16EdgesTest::joinTheSame);
        Check.sentence("12: of another good, owner or last day", Promises9To16EdgesTest::joinOfAnother);
        Check.sentence("12: not blocked by the same reasons", Promises9To16EdgesTest::joinOtherReasons);
        Check.sentence("12: one of them alone is in quarantine", Promises9To16EdgesTest::joinOneInQuarantine);
        Check.sentence("13: A unit of an open lot: its number", Promises9To16EdgesTest::unit);
        Check.sentence("13: IllegalStateException: not open", Promises9To16EdgesTest::unitNotOpen);
        Check.sentence("14: A unit is put into a bin (out of what it is in)", Promises9To16EdgesTest::put);
        Check.sentence("14: IllegalStateException: it is gone", Promises9To16EdgesTest::putGone);
        Check.sentence("14: it is there", Promises9To16EdgesTest::putThere);
        Check.sentence("14: it may not lie with what is there", Promises9To16EdgesTest::putMayNotLie);
        Check.sentence("15: that was refused last", Promises9To16EdgesTest::mixedLast);
        Check.sentence("15: because of what lies there", Promises9To16EdgesTest::mixedBecauseOfWhatLiesThere);
        Check.sentence("15: the lot of the unit with the least number", Promises9To16EdgesTest::mixedLeastUnit);
        Check.sentence("15: (as they were then)", Promises9To16EdgesTest::mixedAsThen);
        Check.sentence("15: 0 the unit's lot, 1 the lot of the unit", Promises9To16EdgesTest::mixedAfterJoins);
        Check.sentence("15: 0 if there was none", Promises9To16EdgesTest::mixedNone);
        Check.sentence("15: IllegalArgumentException for another side", Promises9To16EdgesTest::mixedSides);
        Check.sentence("16: A unit goes to a customer at a day, out of its bin", Promises9To16EdgesTest::ship);
        Check.sentence("16: IllegalStateException: it is gone", Promises9To16EdgesTest::shipGone);
        Check.sentence("16: or its lot is not allowed", Promises9To16EdgesTest::shipNotAllowed);
        Check.end();
    }

    private static void orderOfGoodAndOwner() {
        LotRules x = new LotRules();
        x.lot(9, 7, 100, 0);
        x.lot(9, 6, 90, 0);
        x.lot(8, 7, 90, 0);
        x.lot(9, 7, 99, 0);
        Check.same("the first", x.order(9, 7, 0), 4);
        Check.same("the second", x.order(9, 7, 1), 1);
        Check.same("no third", x.order(9, 7, 2), -1);
        Check.same("another owner", x.order(9, 6, 0), 2);
        Check.same("another good", x.order(8, 7, 0), 3);
        Check.same("none of both", x.order(8, 6, 0), -1);
    }

    private static void orderOfWhatMayBeTaken() {
        LotRules x = Given.lots(6);
        x.block(1, 1);
        x.quarantine(2, true);
        x.join(4, 3);
        x.block(5, 2);
        x.quarantine(5, true);
        Check.same("the first", x.order(0, 0, 0), 4);
        Check.same("the second", x.order(0, 0, 1), 6);
        Check.same("no third", x.order(0, 0, 2), -1);
        x.quarantine(5, false);
        Check.same("out of quarantine, but blocked", x.order(0, 0, 2), -1);
        x.right(0, 2, true);
        x.release(5, 0);
        Check.same("neither", x.order(0, 0, 1), 5);
    }

    private static void orderPastTheEnd() {
        LotRules x = new LotRules();
        Check.same("no lot at all", x.order(0, 0, 0), -1);
        x.lot(0, 0, 60, 50);
        for (int lot = 2; lot <= 40; lot++) {
            Check.same("just past the end of " + (lot - 1), x.order(0, 0, lot - 1), -1);
            x.lot(0, 0, 60, 50);
            Check.same("the last of " + lot, x.order(0, 0, lot - 1), lot);
        }
        for (int i : new int[] {40, 41, 256, 65536, Integer.MAX_VALUE}) {
            Check.same("order " + i + " of 40", x.order(0, 0, i), -1);
        }
    }

    private static void orderBelow() {
        LotRules x = Given.lots(2);
        for (int i : new int[] {-1, -2, -256, -65536, Integer.MIN_VALUE}) {
            Check.refused(x, "order " + i, Check.ARGUMENT, () -> x.order(0, 0, i));
            Check.refused(x, "order " + i + " where there is none", Check.ARGUMENT, () -> x.order(1, 0, i));
        }
        for (int good : Given.outside(0, 9)) {
            Check.refused(x, "good " + good, Check.ARGUMENT, () -> x.order(good, 0, 0));
        }
        for (int owner : Given.outside(0, 7)) {
            Check.refused(x, "owner " + owner, Check.ARGUMENT, () -> x.order(0, owner, 0));
        }
    }

    private static void allowed() {
        LotRules x = new LotRules();
        x.lot(0, 0, 103, 100);
        for (int wanted = 1; wanted <= 6; wanted++) {
            x.wants(3, wanted);
            for (int day = 98; day <= 106; day++) {
                boolean due = day >= 100 && day <= 103 && 104 - day >= wanted;
                Check.holds("wants " + wanted + ", day " + day, x.allowed(1, 3, day) == due);
            }
        }
        for (int customer : Given.outside(0, 7)) {
            Check.refused(x, "customer " + customer, Check.ARGUMENT, () -> x.allowed(1, customer, 101));
        }
        for (int day : Given.outside(0, 36524)) {
            Check.refused(x, "day " + day, Check.ARGUMENT, () -> x.allowed(1, 3, day));
        }
    }

    private static void splitAlike() {
        LotRules x = new LotRules();
        x.lot(8, 6, 200, 100);
        x.split(1);
        x.block(1, 1);
        x.block(1, 9);
        x.split(1);
        x.quarantine(1, true);
        x.split(1);
        for (int lot = 2; lot <= 4; lot++) {
            int[] due = {8, 6, 200, 100, 1, lot == 2 ? 0 : 2 + 512, lot == 4 ? 1 : 0, 0};
            for (int what = 0; what < due.length; what++) {
                Check.same("told(" + lot + ", " + what + ")", x.told(lot, what), due[what]);
            }
        }
        x.quarantine(4, false);
        Check.same("the whole is in quarantine on", x.told(1, 6), 1);
        x.block(4, 5);
        Check.same("and blocked as it was", x.told(1, 5), 2 + 512);
    }

    private static void splitWithoutUnits() {
        LotRules x = Given.lots(1);
        x.unit(1);
        x.unit(1);
        x.ship(2, 0, 55);
        x.split(1);
        Check.same("the part", x.told(2, 7), 0);
        Check.same("the whole", x.told(1, 7), 1);
        Check.same("unit 1", x.where(1, 0), 1);
        Check.same("unit 2", x.where(2, 0), 1);
        Check.same("nor did one ever come with it", x.recall(2, 0), -1);
        Check.same("units", x.count(1), 2);
    }

    private static void splitNumber() {
        LotRules x = Given.lots(1);
        for (int lot = 2; lot <= 40; lot++) {
            Check.same("split(" + (lot - 1) + ")", x.split(lot - 1), lot);
            Check.same("its row", x.history(lot, 0, 0), 2);
            Check.same("from which", x.history(lot, 0, 1), lot - 1);
            Check.same("the row of the whole", x.history(lot - 1, 1, 0), 3);
            Check.same("which part", x.history(lot - 1, 1, 1), lot);
        }
        Check.refused(x, "no room", Check.NO_ROOM, () -> x.split(40));
    }

    private static void splitNotOpen() {
        LotRules x = Given.lots(2);
        x.join(1, 2);
        Check.refused(x, "a joined one", Check.STATE, () -> x.split(2));
        Check.same("an open one", x.split(1), 3);
    }

    private static void joinUnits() {
        LotRules x = Given.lots(3);
        x.unit(3);
        x.unit(2);
        x.unit(3);
        x.unit(1);
        x.put(1, 4);
        x.put(2, 4);
        x.join(1, 3);
        int[] lots = {1, 2, 1, 1};
        int[] bins = {4, 4, -1, -1};
        for (int unit = 1; unit <= 4; unit++) {
            Check.same("the lot of unit " + unit, x.where(unit, 0), lots[unit - 1]);
            Check.same("the bin of unit " + unit, x.where(unit, 1), bins[unit - 1]);
        }
        Check.same("units of 1", x.told(1, 7), 3);
        Check.same("units of 2", x.told(2, 7), 1);
        Check.same("units of 3", x.told(3, 7), 0);
        x.block(1, 1);
        Check.refused(x, "their lot's blocks are theirs", Check.STATE, () -> x.ship(1, 0, 55));
        x.block(2, 1);
        x.join(2, 1);
        for (int unit = 1; unit <= 4; unit++) {
            Check.same("the lot of unit " + unit + " when that one is joined, too", x.where(unit, 0), 2);
        }
        Check.same("units of 2", x.told(2, 7), 4);
    }

    private static void joinUnitsThatWent() {
        LotRules x = Given.lots(2);
        x.unit(2);
        x.ship(1, 7, 60);
        x.join(1, 2);
        Check.same("its lot", x.where(1, 0), 1);
        Check.same("its customer", x.where(1, 2), 7);
        Check.same("its day", x.where(1, 3), 60);
        Check.same("gone it counts in neither", x.told(1, 7) + x.told(2, 7), 0);
        Check.same("gone", x.count(3), 1);
        Check.same("the old lot's history has it on", x.history(2, 2, 0), 11);
    }

    private static void joinNotOpen() {
        LotRules x = Given.lots(3);
        x.join(1, 2);
        Check.refused(x, "the other one", Check.STATE, () -> x.join(3, 2));
        Check.refused(x, "the one", Check.STATE, () -> x.join(2, 3));
        Check.refused(x, "once more", Check.STATE, () -> x.join(1, 2));
        Check.refused(x, "the other way", Check.STATE, () -> x.join(2, 1));
        x.join(3, 1);
        Check.same("open ones are joined", x.told(1, 4), 0);
    }

    private static void joinTheSame() {
        LotRules x = Given.lots(40);
        Check.refused(x, "the first", Check.STATE, () -> x.join(1, 1));
        Check.refused(x, "the last", Check.STATE, () -> x.join(40, 40));
        x.join(40, 1);
        Check.same("the first and the last", x.told(1, 4), 0);
    }

    private static void joinOfAnother() {
        LotRules x = new LotRules();
        x.lot(0, 0, 60, 50);
        x.lot(1, 0, 60, 50);
        x.lot(0, 1, 60, 50);
        x.lot(0, 0, 59, 50);
        x.lot(0, 0, 61, 50);
        String[] why = {"good", "owner", "last day, earlier", "last day, later"};
        for (int other = 2; other <= 5; other++) {
            int with = other;
            Check.refused(x, "another " + why[with - 2], Check.STATE, () -> x.join(1, with));
            Check.refused(x, "another " + why[with - 2] + ", the other way", Check.STATE, () -> x.join(with, 1));
        }
        x.lot(0, 0, 60, 0);
        x.join(1, 6);
        Check.same("another arrival does not matter", x.told(6, 4), 0);
        Check.same("and the one keeps its own", x.told(1, 3), 50);
    }

    private static void joinOtherReasons() {
        LotRules x = Given.lots(5);
        x.block(2, 1);
        x.block(3, 9);
        x.block(4, 1);
        x.block(4, 9);
        x.block(5, 9);
        x.block(5, 1);
        for (int lot = 1; lot <= 3; lot++) {
            for (int other = lot + 1; other <= 4; other++) {
                int one = lot;
                int with = other;
                Check.refused(x, "join(" + one + ", " + with + ")", Check.STATE, () -> x.join(one, with));
                Check.refused(x, "join(" + with + ", " + one + ")", Check.STATE, () -> x.join(with, one));
            }
        }
        x.join(4, 5);
        Check.same("the same reasons, blocked in another order", x.told(5, 4), 0);
        Check.same("they block on", x.told(4, 5), 2 + 512);
    }

    private static void joinOneInQuarantine() {
        LotRules x = Given.lots(3);
        x.quarantine(2, true);
        Check.refused(x, "the other one", Check.STATE, () -> x.join(1, 2));
        Check.refused(x, "the one", Check.STATE, () -> x.join(2, 1));
        x.quarantine(3, true);
        x.join(2, 3);
        Check.same("both", x.told(3, 4), 0);
        Check.same("it stays there", x.told(2, 6), 1);
        x.quarantine(2, false);
        x.join(1, 2);
        Check.same("neither", x.told(2, 4), 0);
    }

    private static void unit() {
        LotRules x = Given.lots(3);
        x.block(2, 1);
        x.quarantine(3, true);
        for (int unit = 1; unit <= 120; unit++) {
            int lot = 1 + unit % 3;
            Check.same("unit " + unit, x.unit(lot), unit);
            Check.same("its lot", x.where(unit, 0), lot);
        }
        Check.refused(x, "no room", Check.NO_ROOM, () -> x.unit(1));
        Check.same("units of each lot", x.told(1, 7), 40);
    }

    private static void unitNotOpen() {
        LotRules x = Given.lots(2);
        x.unit(2);
        x.join(1, 2);
        Check.refused(x, "a joined one", Check.STATE, () -> x.unit(2));
        Check.same("the one into which it was joined", x.unit(1), 2);
    }

    private static void put() {
        LotRules x = Given.unitsWithLastDays(100, 200);
        for (int bin = 0; bin <= 19; bin++) {
            x.put(1, bin);
            Check.same("in bin " + bin, x.where(1, 1), bin);
        }
        x.put(2, 18);
        Check.same("it is out of the bin before", x.where(2, 1), 18);
        x.put(1, 0);
        x.put(2, 19);
        Check.same("and of the last one", x.where(2, 1), 19);
        for (int bin : Given.outside(0, 19)) {
            Check.refused(x, "bin " + bin, Check.ARGUMENT, () -> x.put(1, bin));
        }
        x.block(1, 1);
        x.quarantine(1, true);
        x.put(1, 7);
        Check.same("blocked and in quarantine it may be put, too", x.where(1, 1), 7);
    }

    private static void putGone() {
        LotRules x = Given.unitsWithLastDays(100, 200);
        x.put(1, 3);
        x.put(2, 4);
        x.ship(1, 0, 50);
        Check.refused(x, "into an empty bin", Check.STATE, () -> x.put(1, 5));
        Check.refused(x, "into the bin in which it was", Check.STATE, () -> x.put(1, 3));
        Check.refused(x, "into a bin in which it may not lie", Check.STATE, () -> x.put(1, 4));
        Check.same("it was not refused because of that", x.mixed(0), 0);
    }

    private static void putThere() {
        LotRules x = Given.unitsWithLastDays(100, 101);
        x.rule(0, 1, 1);
        for (int bin : new int[] {0, 19}) {
            x.put(1, bin);
            Check.refused(x, "it is in bin " + bin, Check.STATE, () -> x.put(1, bin));
        }
        x.put(2, 19);
        x.rule(0, 1, 0);
        Check.refused(x, "it is there, with what it may not lie with now", Check.STATE, () -> x.put(1, 19));
        Check.same("it was not refused because of that", x.mixed(0), 0);
    }

    private static void putMayNotLie() {
        LotRules x = Given.unitsWithLastDays(100, 101);
        x.put(1, 0);
        Check.refusedLeavingTrace("out of no bin", Check.STATE, () -> x.put(2, 0));
        Check.same("it stays in none", x.where(2, 1), -1);
        Check.same("mixed(0)", x.mixed(0), 2);
        Check.same("mixed(1)", x.mixed(1), 1);
        x.put(2, 5);
        Check.refusedLeavingTrace("out of another bin", Check.STATE, () -> x.put(2, 0));
        Check.same("it stays there", x.where(2, 1), 5);
        Check.same("what lies there stays, too", x.where(1, 1), 0);
        x.put(1, 1);
        x.put(2, 0);
        Check.same("what has left matters no more", x.where(2, 1), 0);
        Check.refusedLeavingTrace("the other way", Check.STATE, () -> x.put(1, 0));
        x.ship(2, 0, 50);
        x.put(1, 0);
        Check.same("nor does what went", x.where(1, 1), 0);
        x.unit(2);
        x.block(1, 1);
        x.quarantine(1, true);
        Check.refusedLeavingTrace("a blocked one in quarantine lies there, too", Check.STATE, () -> x.put(3, 0));
    }

    private static void mixedIs(LotRules x, String what, int lot, int other) {
        Check.same(what + ": mixed(0)", x.mixed(0), lot);
        Check.same(what + ": mixed(1)", x.mixed(1), other);
    }

    private static void mixedLast() {
        LotRules x = Given.unitsWithLastDays(100, 101, 102, 103);
        x.put(1, 0);
        x.put(2, 1);
        Check.refusedLeavingTrace("put(3, 1)", Check.STATE, () -> x.put(3, 1));
        mixedIs(x, "the first", 3, 2);
        Check.refusedLeavingTrace("put(4, 0)", Check.STATE, () -> x.put(4, 0));
        mixedIs(x, "the second", 4, 1);
        x.put(4, 2);
        mixedIs(x, "one that is done changes nothing", 4, 1);
        Check.refusedLeavingTrace("put(3, 1)", Check.STATE, () -> x.put(3, 1));
        mixedIs(x, "the first once more", 3, 2);
    }

    private static void mixedBecauseOfWhatLiesThere() {
        LotRules x = Given.unitsWithLastDays(100, 101, 102);
        x.put(1, 0);
        Check.refusedLeavingTrace("put(2, 0)", Check.STATE, () -> x.put(2, 0));
        x.put(3, 3);
        Check.refused(x, "it is there", Check.STATE, () -> x.put(3, 3));
        mixedIs(x, "it is there", 2, 1);
        x.rule(0, 1, 2);
        x.put(3, 0);
        x.rule(0, 1, 0);
        Check.refused(x, "it is there, with what it may not lie with now", Check.STATE, () -> x.put(3, 0));
        mixedIs(x, "it is there, with what it may not lie with now", 2, 1);
        x.ship(3, 0, 50);
        Check.refused(x, "it is gone", Check.STATE, () -> x.put(3, 0));
        mixedIs(x, "it is gone", 2, 1);
        Check.refused(x, "a wrong bin", Check.ARGUMENT, () -> x.put(3, 20));
        Check.refused(x, "no such unit", Check.NO_SUCH, () -> x.put(4, 0));
        Check.refused(x, "another call", Check.STATE, () -> x.ship(3, 0, 50));
        mixedIs(x, "other refusals", 2, 1);
    }

    private static void mixedLeastUnit() {
        LotRules x = new LotRules();
        for (int lastDay : new int[] {101, 102, 103, 104}) {
            x.lot(0, 0, lastDay, 0);
        }
        x.rule(0, 1, 1000);
        x.unit(4);
        x.unit(3);
        x.unit(2);
        x.unit(1);
        x.put(4, 0);
        x.put(3, 0);
        x.put(2, 0);
        x.rule(0, 1, 0);
        Check.refusedLeavingTrace("put(1, 0)", Check.STATE, () -> x.put(1, 0));
        mixedIs(x, "unit 2, of lot 3, came last", 4, 3);
        x.rule(0, 1, 1);
        Check.refusedLeavingTrace("put(1, 0)", Check.STATE, () -> x.put(1, 0));
        mixedIs(x, "with unit 2 it may lie, not with unit 3", 4, 2);
        x.rule(0, 1, 2);
        Check.refusedLeavingTrace("put(1, 0)", Check.STATE, () -> x.put(1, 0));
        mixedIs(x, "nor with unit 4", 4, 1);
        x.put(4, 1);
        x.put(1, 0);
        Check.refusedLeavingTrace("put(4, 0)", Check.STATE, () -> x.put(4, 0));
        mixedIs(x, "a unit with a lesser number than its own", 1, 4);
    }

    private static void mixedAsThen() {
        LotRules x = Given.unitsWithLastDays(100, 101);
        x.put(1, 0);
        Check.refusedLeavingTrace("put(2, 0)", Check.STATE, () -> x.put(2, 0));
        x.put(1, 1);
        x.put(2, 0);
        mixedIs(x, "they lie elsewhere", 2, 1);
        x.split(1);
        x.split(2);
        x.join(3, 1);
        x.join(4, 2);
        mixedIs(x, "they are of other lots", 2, 1);
        x.rule(0, 1, 1);
        mixedIs(x, "the rule is another one", 2, 1);
        x.ship(1, 0, 50);
        x.ship(2, 0, 50);
        mixedIs(x, "they went", 2, 1);
    }

    private static void mixedAfterJoins() {
        LotRules x = Given.unitsWithLastDays(100, 101);
        x.split(1);
        x.split(2);
        x.join(3, 1);
        x.join(4, 2);
        x.put(1, 0);
        Check.refusedLeavingTrace("put(2, 0)", Check.STATE, () -> x.put(2, 0));
        mixedIs(x, "the lots of which they are now", 4, 3);
    }

    private static void mixedNone() {
        LotRules x = new LotRules();
        mixedIs(x, "a new object", 0, 0);
        x.unit(x.lot(0, 0, 100, 0));
        x.put(1, 0);
        Check.refused(x, "it is there", Check.STATE, () -> x.put(1, 0));
        Check.refused(x, "no such unit", Check.NO_SUCH, () -> x.put(2, 0));
        mixedIs(x, "none because of what lies there", 0, 0);
        LotRules other = Given.unitsWithLastDays(100, 101);
        other.put(1, 0);
        Check.refusedLeavingTrace("another object's", Check.STATE, () -> other.put(2, 0));
        mixedIs(x, "none of this object", 0, 0);
    }

    private static void mixedSides() {
        LotRules x = Given.unitsWithLastDays(100, 101);
        for (int side : Given.outside(0, 1)) {
            Check.refused(x, "side " + side + " where there was none", Check.ARGUMENT, () -> x.mixed(side));
        }
        x.put(1, 0);
        Check.refusedLeavingTrace("put(2, 0)", Check.STATE, () -> x.put(2, 0));
        for (int side : Given.outside(0, 1)) {
            Check.refused(x, "side " + side, Check.ARGUMENT, () -> x.mixed(side));
        }
        mixedIs(x, "the two sides", 2, 1);
    }

    private static void ship() {
        LotRules x = Given.unitsWithLastDays(100, 101);
        x.put(1, 19);
        x.ship(1, 7, 99);
        int[] due = {1, -1, 7, 99};
        for (int what = 0; what < due.length; what++) {
            Check.same("where(1, " + what + ")", x.where(1, what), due[what]);
        }
        x.put(2, 19);
        Check.same("its bin is free", x.where(2, 1), 19);
        Check.same("its row", x.history(1, 2, 0), 11);
        Check.same("its number", x.history(1, 2, 1), 1);
        Check.same("units left", x.told(1, 7), 0);
        Check.same("gone", x.count(3), 1);
        x.ship(2, 0, 0);
        Check.same("customer 0", x.where(2, 2), 0);
        Check.same("day 0", x.where(2, 3), 0);
        Check.same("gone", x.count(3), 2);
    }

    private static void shipGone() {
        LotRules x = Given.unitsWithLastDays(100);
        x.ship(1, 0, 0);
        Check.refused(x, "to the same customer", Check.STATE, () -> x.ship(1, 0, 0));
        Check.refused(x, "to another one", Check.STATE, () -> x.ship(1, 1, 50));
        Check.same("it went where it went", x.where(1, 2), 0);
        Check.same("gone once", x.count(3), 1);
    }

    private static void shipNotAllowed() {
        LotRules x = Given.lots(2);
        for (int unit = 1; unit <= 6; unit++) {
            x.unit(1);
        }
        Check.refused(x, "a day before the arrival", Check.STATE, () -> x.ship(1, 0, 49));
        x.ship(1, 0, 50);
        Check.refused(x, "a day behind the last", Check.STATE, () -> x.ship(2, 0, 61));
        x.ship(2, 0, 60);
        x.wants(0, 3);
        Check.refused(x, "a day too few", Check.STATE, () -> x.ship(3, 0, 59));
        x.ship(3, 0, 58);
        x.block(1, 5);
        Check.refused(x, "blocked", Check.STATE, () -> x.ship(4, 1, 55));
        x.right(0, 5, true);
        x.release(1, 0);
        x.ship(4, 1, 55);
        x.quarantine(1, true);
        Check.refused(x, "in quarantine", Check.STATE, () -> x.ship(5, 1, 55));
        x.quarantine(1, false);
        x.ship(5, 1, 55);
        x.block(2, 5);
        x.ship(6, 1, 55);
        Check.same("another lot's block does not matter", x.count(3), 6);
    }
}
