/** Promises 1 to 8 (the new object to quarantine), a test for each sentence that names a boundary. */
public final class Promises1To8EdgesTest {
    public static void main(String[] args) {
        Check.sentence("1: No lots", Promises1To8EdgesTest::noLots);
        Check.sentence("1: no person may release anything", Promises1To8EdgesTest::noRights);
        Check.sentence("2: A lot: its number", Promises1To8EdgesTest::lotNumber);
        Check.sentence("2: 0, and there is none, if its last day is before its arrival", Promises1To8EdgesTest::noLot);
        Check.sentence("2: (also where there is no room)", Promises1To8EdgesTest::noLotWithoutRoom);
        Check.sentence("2: IllegalArgumentException", Promises1To8EdgesTest::wrongLots);
        Check.sentence("3: rotation (kind 0: days 0 .. 2)", Promises1To8EdgesTest::ruleRotation);
        Check.sentence("3: mixture (kind 1: days 0 .. 1000)", Promises1To8EdgesTest::ruleMixture);
        Check.sentence("3: no other kind", Promises1To8EdgesTest::ruleKinds);
        Check.sentence("3: rotation or mixture", Promises1To8EdgesTest::ruleLeavesTheOther);
        Check.sentence("4: A customer wants so many days (1 .. 1000)", Promises1To8EdgesTest::wants);
        Check.sentence("5: A person may release a reason", Promises1To8EdgesTest::right);
        Check.sentence("5: or not any more", Promises1To8EdgesTest::rightNotAnyMore);
        Check.sentence("6: A reason blocks an open lot: how many do", Promises1To8EdgesTest::blockHowMany);
        Check.sentence("6: IllegalStateException: not open", Promises1To8EdgesTest::blockNotOpen);
        Check.sentence("6: or this one does already", Promises1To8EdgesTest::blockAlready);
        Check.sentence("7: from all that blocks it that this person may release: how many",
                Promises1To8EdgesTest::releaseHowMany);
        Check.sentence("7: IllegalStateException: not open", Promises1To8EdgesTest::releaseNotOpen);
        Check.sentence("7: or not blocked", Promises1To8EdgesTest::releaseNotBlocked);
        Check.sentence("7: or none of them", Promises1To8EdgesTest::releaseNoneOfThem);
        Check.sentence("8: An open lot comes into quarantine, or out of it", Promises1To8EdgesTest::quarantine);
        Check.sentence("8: IllegalStateException: not open", Promises1To8EdgesTest::quarantineNotOpen);
        Check.sentence("8: or it is so", Promises1To8EdgesTest::quarantineIsSo);
        Check.end();
    }

    private static void noLots() {
        LotRules x = new LotRules();
        for (int what = 0; what <= 3; what++) {
            Check.same("count(" + what + ")", x.count(what), 0);
        }
        for (int good = 0; good <= 9; good++) {
            for (int owner = 0; owner <= 7; owner++) {
                Check.same("order(" + good + ", " + owner + ", 0)", x.order(good, owner, 0), -1);
            }
        }
        for (int lot = 0; lot <= 41; lot++) {
            int none = lot;
            Check.refused(x, "lot " + none, Check.NO_SUCH, () -> x.told(none, 4));
            Check.refused(x, "unit " + none, Check.NO_SUCH, () -> x.where(none, 0));
        }
        Check.same("mixed(0)", x.mixed(0), 0);
        Check.same("mixed(1)", x.mixed(1), 0);
        Check.same("an object knows nothing of another one", Given.lots(2).count(0) + x.count(0), 2);
    }

    private static void noRights() {
        LotRules x = Given.lots(9);
        for (int reason = 1; reason <= 9; reason++) {
            x.block(reason, reason);
            for (int person = 0; person <= 7; person++) {
                int lot = reason;
                int who = person;
                Check.refused(x, "release(" + lot + ", " + who + ")", Check.STATE, () -> x.release(lot, who));
            }
        }
    }

    private static void lotNumber() {
        LotRules x = new LotRules();
        for (int lot = 1; lot <= 40; lot++) {
            Check.same("lot " + lot, x.lot(lot % 10, lot % 8, 100 + lot, lot), lot);
            int[] due = {lot % 10, lot % 8, 100 + lot, lot, 1, 0, 0, 0};
            for (int what = 0; what < due.length; what++) {
                Check.same("told(" + lot + ", " + what + ")", x.told(lot, what), due[what]);
            }
        }
    }

    private static void noLot() {
        LotRules x = Given.lots(1);
        String before = Check.stateOf(x);
        Check.same("a day before", x.lot(0, 0, 49, 50), 0);
        Check.same("day 0 before day 1", x.lot(0, 0, 0, 1), 0);
        Check.same("the first before the last of all days", x.lot(0, 0, 0, 36524), 0);
        Check.holds("there is none", before.equals(Check.stateOf(x)));
        Check.same("lots", x.count(0), 1);
        Check.same("rows", x.count(2), 1);
        Check.same("in order", x.order(0, 0, 1), -1);
        Check.refused(x, "no lot 2", Check.NO_SUCH, () -> x.told(2, 0));
        Check.same("the same day is not before it", x.lot(0, 0, 50, 50), 2);
    }

    private static void noLotWithoutRoom() {
        LotRules full = Given.lots(40);
        Check.same("40 lots", full.lot(0, 0, 49, 50), 0);
        Check.refused(full, "40 lots, a last day that is not before", Check.NO_ROOM, () -> full.lot(0, 0, 50, 50));
        LotRules written = Given.lots(1);
        Given.fillRows(written, 1, 400);
        Check.same("400 rows", written.lot(0, 0, 49, 50), 0);
        Check.refused(written, "400 rows, a last day that is not before", Check.NO_ROOM, () -> written.lot(0, 0, 50, 50));
    }

    private static void wrongLots() {
        LotRules x = new LotRules();
        for (int good : Given.outside(0, 9)) {
            Check.refused(x, "good " + good, Check.ARGUMENT, () -> x.lot(good, 0, 60, 50));
            Check.refused(x, "good " + good + ", last day before", Check.ARGUMENT, () -> x.lot(good, 0, 49, 50));
        }
        for (int owner : Given.outside(0, 7)) {
            Check.refused(x, "owner " + owner, Check.ARGUMENT, () -> x.lot(0, owner, 60, 50));
            Check.refused(x, "owner " + owner + ", last day before", Check.ARGUMENT, () -> x.lot(0, owner, 49, 50));
        }
        for (int day : Given.outside(0, 36524)) {
            Check.refused(x, "last day " + day, Check.ARGUMENT, () -> x.lot(0, 0, day, 0));
            Check.refused(x, "last day " + day + " before", Check.ARGUMENT, () -> x.lot(0, 0, day, 36524));
            Check.refused(x, "arrival " + day, Check.ARGUMENT, () -> x.lot(0, 0, 36524, day));
            Check.refused(x, "arrival " + day + " behind", Check.ARGUMENT, () -> x.lot(0, 0, 0, day));
            Check.refused(x, "both " + day, Check.ARGUMENT, () -> x.lot(0, 0, day, day));
        }
    }

    private static void ruleRotation() {
        LotRules x = new LotRules();
        x.lot(0, 3, 102, 11);
        x.lot(0, 3, 101, 12);
        x.lot(0, 3, 103, 10);
        x.lot(0, 3, 104, 13);
        int[] first = {2, 3, 4};
        for (int rotation = 0; rotation <= 2; rotation++) {
            x.rule(3, 0, rotation);
            Check.same("rotation " + rotation, x.order(0, 3, 0), first[rotation]);
            for (int wrong : Given.outside(0, 2)) {
                Check.refused(x, "rotation " + wrong, Check.ARGUMENT, () -> x.rule(3, 0, wrong));
            }
            Check.same("rotation " + rotation + " stays", x.order(0, 3, 0), first[rotation]);
        }
        x.rule(3, 0, 0);
        Check.same("rotation 0 again", x.order(0, 3, 0), 2);
    }

    private static void ruleMixture() {
        LotRules x = Given.unitsWithLastDays(5000, 5000, 5001, 6000, 6001);
        x.put(1, 0);
        x.rule(0, 1, 1000);
        Check.refusedLeavingTrace("1001 days apart", Check.STATE, () -> x.put(5, 0));
        x.put(4, 0);
        Check.same("1000 days apart", x.where(4, 1), 0);
        x.put(4, 1);
        for (int wrong : Given.outside(0, 1000)) {
            Check.refused(x, "mixture " + wrong, Check.ARGUMENT, () -> x.rule(0, 1, wrong));
        }
        x.put(4, 0);
        Check.same("the mixture stays", x.where(4, 1), 0);
        x.put(4, 1);
        x.rule(0, 1, 999);
        Check.refusedLeavingTrace("1000 days apart, mixture 999", Check.STATE, () -> x.put(4, 0));
        x.rule(0, 1, 1);
        x.put(3, 0);
        Check.same("a day apart, mixture 1", x.where(3, 1), 0);
        x.put(3, 2);
        x.rule(0, 1, 0);
        Check.refusedLeavingTrace("a day apart, mixture 0", Check.STATE, () -> x.put(3, 0));
        x.put(2, 0);
        Check.same("no day apart, mixture 0", x.where(2, 1), 0);
    }

    private static void ruleKinds() {
        LotRules x = new LotRules();
        for (int kind : Given.outside(0, 1)) {
            for (int days = 0; days <= 2; days++) {
                int many = days;
                Check.refused(x, "rule(0, " + kind + ", " + many + ")", Check.ARGUMENT, () -> x.rule(0, kind, many));
            }
        }
    }

    private static void ruleLeavesTheOther() {
        LotRules x = Given.unitsWithLastDays(100, 102, 103);
        x.rule(0, 1, 2);
        Check.same("the mixture is no rotation", x.order(0, 0, 0), 1);
        x.put(1, 0);
        x.rule(0, 0, 1);
        x.put(2, 0);
        Check.same("the rotation is no mixture", x.where(2, 1), 0);
        x.rule(0, 0, 2);
        Check.refusedLeavingTrace("nor a greater one", Check.STATE, () -> x.put(3, 0));
        Check.same("rotation 2", x.order(0, 0, 0), 3);
    }

    private static void wants() {
        LotRules x = new LotRules();
        x.lot(0, 0, 5000, 0);
        int[] edges = {1, 2, 999, 1000};
        for (int days : edges) {
            x.wants(5, days);
            Check.holds("wants " + days + ": so many", x.allowed(1, 5, 5001 - days));
            Check.holds("wants " + days + ": one less", !x.allowed(1, 5, 5002 - days));
            Check.holds("another customer wants 1", x.allowed(1, 4, 5000));
            for (int wrong : Given.outside(1, 1000)) {
                Check.refused(x, "wants " + wrong, Check.ARGUMENT, () -> x.wants(5, wrong));
            }
            Check.holds("wants " + days + " on: so many", x.allowed(1, 5, 5001 - days));
            Check.holds("wants " + days + " on: one less", !x.allowed(1, 5, 5002 - days));
        }
        for (int customer : Given.outside(0, 7)) {
            Check.refused(x, "customer " + customer, Check.ARGUMENT, () -> x.wants(customer, 1));
        }
    }

    private static void right() {
        for (int reason = 1; reason <= 9; reason++) {
            LotRules x = Given.lots(1);
            x.right(4, reason, true);
            x.right(4, reason, true);
            for (int other = 1; other <= 9; other++) {
                x.block(1, other);
            }
            Check.refused(x, "another person", Check.STATE, () -> x.release(1, 3));
            Check.same("reason " + reason + " alone", x.release(1, 4), 1);
            Check.same("the others block on", x.told(1, 5), 1022 & ~(1 << reason));
        }
    }

    private static void rightNotAnyMore() {
        LotRules x = Given.lots(1);
        for (int reason = 1; reason <= 9; reason++) {
            x.block(1, reason);
            x.right(4, reason, true);
            x.right(5, reason, true);
        }
        x.right(4, 9, false);
        x.right(4, 1, false);
        x.right(4, 1, false);
        x.right(3, 2, false);
        Check.same("seven of nine", x.release(1, 4), 7);
        Check.same("two are left", x.told(1, 5), 2 + 512);
        Check.refused(x, "none of them", Check.STATE, () -> x.release(1, 4));
        x.right(4, 9, true);
        Check.same("the right again", x.release(1, 4), 1);
        Check.same("another person keeps it", x.release(1, 5), 1);
    }

    private static void blockHowMany() {
        LotRules x = Given.lots(2);
        for (int reason = 9; reason >= 1; reason--) {
            Check.same("reason " + reason, x.block(1, reason), 10 - reason);
        }
        Check.same("the other lot", x.block(2, 5), 1);
        x.right(0, 3, true);
        x.right(0, 4, true);
        x.release(1, 0);
        Check.same("behind a release of two", x.block(1, 3), 8);
    }

    private static void blockNotOpen() {
        LotRules x = Given.lots(2);
        x.join(2, 1);
        for (int reason = 1; reason <= 9; reason++) {
            int why = reason;
            Check.refused(x, "reason " + why, Check.STATE, () -> x.block(1, why));
        }
        Check.same("the open one", x.block(2, 1), 1);
    }

    private static void blockAlready() {
        LotRules x = Given.lots(1);
        for (int reason = 1; reason <= 9; reason++) {
            int why = reason;
            x.block(1, why);
            Check.refused(x, "reason " + why, Check.STATE, () -> x.block(1, why));
        }
        Check.same("a part of it", x.split(1), 2);
        Check.refused(x, "is blocked by it, too", Check.STATE, () -> x.block(2, 1));
    }

    private static void releaseHowMany() {
        LotRules x = Given.lots(2);
        for (int reason = 1; reason <= 9; reason++) {
            x.block(1, reason);
            x.block(2, reason);
            x.right(7, reason, true);
        }
        x.right(0, 1, true);
        x.right(0, 9, true);
        Check.same("two", x.release(1, 0), 2);
        Check.same("two are gone", x.told(1, 5), 1022 - 2 - 512);
        Check.same("the other lot is as it was", x.told(2, 5), 1022);
        Check.same("seven", x.release(1, 7), 7);
        Check.same("nine", x.release(2, 7), 9);
        Check.same("nothing blocks 1", x.told(1, 5), 0);
        Check.same("nothing blocks 2", x.told(2, 5), 0);
        Check.same("one row for each release", x.count(2), 2 + 18 + 3);
    }

    private static void releaseNotOpen() {
        LotRules x = Given.lots(2);
        x.block(1, 1);
        x.block(2, 1);
        x.right(0, 1, true);
        x.join(2, 1);
        Check.refused(x, "a blocked one that was joined", Check.STATE, () -> x.release(1, 0));
        Check.same("the one into which it was", x.release(2, 0), 1);
    }

    private static void releaseNotBlocked() {
        LotRules x = Given.lots(1);
        for (int reason = 1; reason <= 9; reason++) {
            x.right(0, reason, true);
        }
        Check.refused(x, "at first", Check.STATE, () -> x.release(1, 0));
        x.quarantine(1, true);
        Check.refused(x, "in quarantine", Check.STATE, () -> x.release(1, 0));
        x.block(1, 1);
        x.release(1, 0);
        Check.refused(x, "when all is released", Check.STATE, () -> x.release(1, 0));
    }

    private static void releaseNoneOfThem() {
        LotRules x = Given.lots(1);
        for (int reason = 1; reason <= 8; reason++) {
            x.right(0, reason, true);
        }
        x.block(1, 9);
        Check.refused(x, "all reasons but this one", Check.STATE, () -> x.release(1, 0));
        Check.same("it blocks on", x.told(1, 5), 512);
    }

    private static void quarantine() {
        LotRules x = Given.lots(2);
        for (int time = 0; time < 3; time++) {
            x.quarantine(2, true);
            Check.same("in", x.told(2, 6), 1);
            Check.same("its row", x.history(2, 2 * time + 1, 0), 8);
            x.quarantine(2, false);
            Check.same("out", x.told(2, 6), 0);
            Check.same("its row", x.history(2, 2 * time + 2, 0), 9);
        }
        Check.same("the other lot", x.told(1, 6), 0);
    }

    private static void quarantineNotOpen() {
        LotRules x = Given.lots(4);
        x.quarantine(3, true);
        x.quarantine(4, true);
        x.join(1, 2);
        x.join(3, 4);
        Check.refused(x, "into it", Check.STATE, () -> x.quarantine(2, true));
        Check.refused(x, "out of it, where it is not", Check.STATE, () -> x.quarantine(2, false));
        Check.refused(x, "out of it", Check.STATE, () -> x.quarantine(4, false));
        Check.refused(x, "into it, where it is", Check.STATE, () -> x.quarantine(4, true));
        x.quarantine(3, false);
        Check.same("the open one comes out", x.told(3, 6), 0);
    }

    private static void quarantineIsSo() {
        LotRules x = Given.lots(1);
        Check.refused(x, "out at first", Check.STATE, () -> x.quarantine(1, false));
        x.quarantine(1, true);
        Check.refused(x, "in", Check.STATE, () -> x.quarantine(1, true));
        x.quarantine(1, false);
        Check.refused(x, "out again", Check.STATE, () -> x.quarantine(1, false));
        x.quarantine(1, true);
        x.split(1);
        Check.refused(x, "a part of it is in, too", Check.STATE, () -> x.quarantine(2, true));
    }
}
