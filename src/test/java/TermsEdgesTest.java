/** 'Terms', a test for each sentence that names a range, a limit, a first value or a bound; RefusalEdgesTest has REFUSALS. */
public final class TermsEdgesTest {
    public static void main(String[] args) {
        Check.sentence("An object is used for at most 512 calls", TermsEdgesTest::calls);
        Check.sentence("DAYS are counted from the first of January 2000 (day 0)", TermsEdgesTest::firstDay);
        Check.sentence("to the last of December 2099 (36524)", TermsEdgesTest::lastDay);
        Check.sentence("DAYS: no number outside 0 .. 36524", TermsEdgesTest::noSuchDays);
        Check.sentence("years that 4 divides have 366", TermsEdgesTest::leapYears);
        Check.sentence("GOODS are 0 .. 9", TermsEdgesTest::goods);
        Check.sentence("OWNERS 0 .. 7", TermsEdgesTest::owners);
        Check.sentence("CUSTOMERS 0 .. 7", TermsEdgesTest::customers);
        Check.sentence("PERSONS 0 .. 7", TermsEdgesTest::persons);
        Check.sentence("REASONS 1 .. 9", TermsEdgesTest::reasons);
        Check.sentence("BINS 0 .. 19", TermsEdgesTest::bins);
        Check.sentence("LOTS are numbered 1, 2, .. as they come", TermsEdgesTest::lotNumbers);
        Check.sentence("LOTS (at most 40)", TermsEdgesTest::fortyLots);
        Check.sentence("UNITS 1, 2, .. as they come", TermsEdgesTest::unitNumbers);
        Check.sentence("UNITS (at most 120)", TermsEdgesTest::unitsAtMost);
        Check.sentence("the last day for which it is good, not before that", TermsEdgesTest::lastDayNotBefore);
        Check.sentence("It is OPEN until it is joined into another one", TermsEdgesTest::open);
        Check.sentence("It is BLOCKED as long as a reason blocks it", TermsEdgesTest::blockedAsLong);
        Check.sentence("(each reason once)", TermsEdgesTest::eachReasonOnce);
        Check.sentence("and may be in QUARANTINE", TermsEdgesTest::quarantine);
        Check.sentence("A UNIT is of one lot", TermsEdgesTest::unitOfOneLot);
        Check.sentence("it is in a bin, or in none, or went to a customer (GONE)", TermsEdgesTest::unitIsSomewhere);
        Check.end();
    }

    private static void calls() {
        LotRules x = Given.lots(40);
        for (int unit = 1; unit <= 120; unit++) {
            x.unit(1 + unit % 40);
        }
        Given.fillRows(x, 1, 400);
        for (int call = 40 + 120 + 240 + 2; call < 511; call++) {
            x.count(0);
        }
        Check.same("the 512th call", x.recall(40, 2), 119);
    }

    private static void firstDay() {
        LotRules x = new LotRules();
        Check.same("2000-01-01", x.day(0, 101), 0);
        Check.same("day 0", x.date(0, 0), 101);
        Check.same("a lot that is good on day 0 alone", x.lot(0, 0, 0, 0), 1);
        Check.holds("it is allowed then", x.allowed(1, 0, 0));
        x.ship(x.unit(1), 0, 0);
        Check.same("it went on day 0", x.where(1, 3), 0);
    }

    private static void lastDay() {
        LotRules x = new LotRules();
        Check.same("2099-12-31", x.day(0, 991231), 36524);
        Check.same("day 36524", x.date(0, 36524), 991231);
        Check.same("a lot that is good on day 36524 alone", x.lot(0, 0, 36524, 36524), 1);
        Check.holds("it is allowed then", x.allowed(1, 0, 36524));
        x.ship(x.unit(1), 0, 36524);
        Check.same("it went on day 36524", x.where(1, 3), 36524);
    }

    private static void noSuchDays() {
        LotRules x = new LotRules();
        x.unit(x.lot(0, 0, 36524, 0));
        for (int day : Given.outside(0, 36524)) {
            Check.refused(x, "lot until " + day, Check.ARGUMENT, () -> x.lot(0, 0, day, 0));
            Check.refused(x, "lot arrived " + day, Check.ARGUMENT, () -> x.lot(0, 0, 36524, day));
            Check.refused(x, "allowed at " + day, Check.ARGUMENT, () -> x.allowed(1, 0, day));
            Check.refused(x, "ship at " + day, Check.ARGUMENT, () -> x.ship(1, 0, day));
            Check.refused(x, "date of " + day, Check.ARGUMENT, () -> x.date(0, day));
        }
    }

    private static void leapYears() {
        LotRules x = new LotRules();
        int first = 0;
        for (int year = 0; year <= 99; year++) {
            boolean leap = year % 4 == 0;
            int days = leap ? 366 : 365;
            Check.same("1 January of year " + year, x.day(2, year * 1000 + 1), first);
            Check.same("day 366 of year " + year, x.day(2, year * 1000 + 366), leap ? first + 365 : -1);
            Check.same("29 February of year " + year, x.day(0, year * 10000 + 229), leap ? first + 59 : -1);
            Check.same("31 December of year " + year, x.day(1, 311200 + year), first + days - 1);
            first += days;
        }
        Check.same("days in all", first, 36525);
    }

    private static void goods() {
        LotRules x = new LotRules();
        for (int good = 0; good <= 9; good++) {
            Check.same("lot of good " + good, x.lot(good, 0, 60, 50), good + 1);
            Check.same("its good", x.told(good + 1, 0), good);
            Check.same("order of good " + good, x.order(good, 0, 0), good + 1);
            Check.same("no other lot of good " + good, x.order(good, 0, 1), -1);
        }
        for (int good : Given.outside(0, 9)) {
            Check.refused(x, "lot of good " + good, Check.ARGUMENT, () -> x.lot(good, 0, 60, 50));
            Check.refused(x, "order of good " + good, Check.ARGUMENT, () -> x.order(good, 0, 0));
        }
    }

    private static void owners() {
        LotRules x = new LotRules();
        for (int owner = 0; owner <= 7; owner++) {
            Check.same("lot of owner " + owner, x.lot(0, owner, 60, 50), 2 * owner + 1);
            x.lot(0, owner, 55, 52);
            Check.same("its owner", x.told(2 * owner + 1, 1), owner);
        }
        for (int owner = 0; owner <= 7; owner++) {
            Check.same("order of owner " + owner, x.order(0, owner, 0), 2 * owner + 2);
            x.rule(owner, 0, 1);
            Check.same("order by the rule of owner " + owner, x.order(0, owner, 0), 2 * owner + 1);
            x.rule(owner, 1, 1000);
        }
        for (int owner : Given.outside(0, 7)) {
            Check.refused(x, "lot of owner " + owner, Check.ARGUMENT, () -> x.lot(0, owner, 60, 50));
            Check.refused(x, "order of owner " + owner, Check.ARGUMENT, () -> x.order(0, owner, 0));
            Check.refused(x, "rotation of owner " + owner, Check.ARGUMENT, () -> x.rule(owner, 0, 0));
            Check.refused(x, "mixture of owner " + owner, Check.ARGUMENT, () -> x.rule(owner, 1, 0));
        }
    }

    private static void customers() {
        LotRules x = Given.lots(1);
        for (int customer = 0; customer <= 7; customer++) {
            x.wants(customer, customer + 2);
        }
        for (int customer = 0; customer <= 7; customer++) {
            int day = 60 - customer - 1;
            int to = customer;
            int unit = x.unit(1);
            Check.holds("one day too few for customer " + to, !x.allowed(1, to, day + 1));
            Check.holds("days enough for customer " + to, x.allowed(1, to, day));
            Check.refused(x, "ship too late to customer " + to, Check.STATE, () -> x.ship(unit, to, day + 1));
            x.ship(unit, to, day);
            Check.same("the customer to whom it went", x.where(unit, 2), to);
        }
        x.unit(1);
        for (int customer : Given.outside(0, 7)) {
            Check.refused(x, "wants: customer " + customer, Check.ARGUMENT, () -> x.wants(customer, 1));
            Check.refused(x, "allowed: customer " + customer, Check.ARGUMENT, () -> x.allowed(1, customer, 55));
            Check.refused(x, "ship: customer " + customer, Check.ARGUMENT, () -> x.ship(9, customer, 55));
        }
    }

    private static void persons() {
        LotRules x = Given.lots(1);
        for (int person = 0; person <= 7; person++) {
            x.block(1, 1);
            int who = person;
            Check.refused(x, "person " + who + " without a right", Check.STATE, () -> x.release(1, who));
            x.right(who, 1, true);
            Check.same("person " + who + " with it", x.release(1, who), 1);
            Check.same("the person in the history", x.history(1, 2 * who + 2, 1), who);
        }
        x.block(1, 1);
        for (int person : Given.outside(0, 7)) {
            Check.refused(x, "right of person " + person, Check.ARGUMENT, () -> x.right(person, 1, true));
            Check.refused(x, "no right of person " + person, Check.ARGUMENT, () -> x.right(person, 1, false));
            Check.refused(x, "release by person " + person, Check.ARGUMENT, () -> x.release(1, person));
        }
    }

    private static void reasons() {
        LotRules x = Given.lots(1);
        int bits = 0;
        for (int reason = 1; reason <= 9; reason++) {
            Check.same("block by reason " + reason, x.block(1, reason), reason);
            bits |= 1 << reason;
            Check.same("its bit", x.told(1, 5), bits);
            Check.same("its row", x.history(1, reason, 1), reason);
        }
        for (int reason = 1; reason <= 9; reason++) {
            x.right(3, reason, true);
            Check.same("release of reason " + reason, x.release(1, 3), 1);
            bits &= ~(1 << reason);
            Check.same("the others block on", x.told(1, 5), bits);
        }
        for (int reason : Given.outside(1, 9)) {
            Check.refused(x, "block by reason " + reason, Check.ARGUMENT, () -> x.block(1, reason));
            Check.refused(x, "right to reason " + reason, Check.ARGUMENT, () -> x.right(3, reason, true));
            Check.refused(x, "no right to reason " + reason, Check.ARGUMENT, () -> x.right(3, reason, false));
        }
    }

    private static void bins() {
        LotRules x = new LotRules();
        for (int bin = 0; bin <= 19; bin++) {
            x.unit(x.lot(0, 0, 60 + bin, 50));
            x.put(bin + 1, bin);
            Check.same("a unit alone in bin " + bin, x.where(bin + 1, 1), bin);
        }
        for (int bin = 0; bin < 19; bin++) {
            int into = bin;
            Check.refusedLeavingTrace("bin " + into + " is another one's", Check.STATE, () -> x.put(20, into));
            Check.same("with what lies in bin " + into, x.mixed(1), into + 1);
        }
        for (int bin : Given.outside(0, 19)) {
            Check.refused(x, "bin " + bin, Check.ARGUMENT, () -> x.put(1, bin));
        }
    }

    private static void lotNumbers() {
        LotRules x = new LotRules();
        Check.same("the first lot", x.lot(5, 5, 60, 50), 1);
        Check.same("a split one", x.split(1), 2);
        Check.same("none", x.lot(5, 5, 49, 50), 0);
        Check.refused(x, "a lot that is refused", Check.ARGUMENT, () -> x.lot(10, 5, 60, 50));
        Check.same("neither took a number", x.lot(0, 0, 60, 50), 3);
        x.join(1, 2);
        Check.same("nor does a joined one give its number back", x.split(3), 4);
        for (int none : new int[] {0, -1, 5}) {
            Check.refused(x, "lot " + none, Check.NO_SUCH, () -> x.told(none, 0));
        }
    }

    private static void fortyLots() {
        LotRules x = Given.lots(38);
        Check.same("the 39th lot", x.lot(0, 0, 60, 50), 39);
        Check.refused(x, "lot 40 before it comes", Check.NO_SUCH, () -> x.told(40, 4));
        Check.same("the 40th lot", x.split(39), 40);
        Check.same("it is there", x.told(40, 4), 1);
        Check.same("it is the last in order", x.order(0, 0, 39), 40);
        Check.refused(x, "a 41st lot", Check.NO_ROOM, () -> x.lot(0, 0, 60, 50));
        Check.refused(x, "a 41st lot by a split", Check.NO_ROOM, () -> x.split(1));
        Check.refused(x, "lot 41", Check.NO_SUCH, () -> x.told(41, 0));
        Check.same("lots", x.count(0), 40);
    }

    private static void unitNumbers() {
        LotRules x = Given.lots(2);
        Check.same("the first unit", x.unit(2), 1);
        Check.same("one of another lot", x.unit(1), 2);
        x.ship(1, 0, 55);
        Check.same("a unit that is gone does not give its number back", x.unit(2), 3);
        x.join(1, 2);
        Check.refused(x, "a unit that is refused", Check.STATE, () -> x.unit(2));
        Check.same("took no number", x.unit(1), 4);
        for (int none : new int[] {0, -1, 5}) {
            Check.refused(x, "unit " + none, Check.NO_SUCH, () -> x.where(none, 0));
        }
    }

    private static void unitsAtMost() {
        LotRules x = Given.lots(2);
        for (int unit = 1; unit <= 119; unit++) {
            x.unit(1);
        }
        Check.refused(x, "unit 120 before it comes", Check.NO_SUCH, () -> x.where(120, 0));
        Check.same("the 120th unit", x.unit(2), 120);
        Check.same("it is there", x.where(120, 0), 2);
        x.put(120, 19);
        Check.same("it lies in a bin", x.where(120, 1), 19);
        Check.refused(x, "a 121st unit", Check.NO_ROOM, () -> x.unit(1));
        Check.refused(x, "a 121st unit, of another lot", Check.NO_ROOM, () -> x.unit(2));
        Check.refused(x, "unit 121", Check.NO_SUCH, () -> x.where(121, 0));
        Check.same("units", x.count(1), 120);
    }

    private static void lastDayNotBefore() {
        LotRules x = new LotRules();
        Check.same("a day before", x.lot(0, 0, 49, 50), 0);
        Check.same("far before", x.lot(0, 0, 0, 36524), 0);
        Check.same("the same day", x.lot(0, 0, 50, 50), 1);
        Check.same("a day behind", x.lot(0, 0, 51, 50), 2);
        Check.same("far behind", x.lot(0, 0, 36524, 0), 3);
    }

    private static void open() {
        LotRules x = Given.lots(2);
        x.block(1, 1);
        x.quarantine(1, true);
        Check.same("blocked and in quarantine it is open", x.told(1, 4), 1);
        x.split(2);
        Check.same("split it is open", x.told(2, 4), 1);
        Check.same("and so is the part", x.told(3, 4), 1);
        x.join(3, 2);
        Check.same("with another one joined into it it is open", x.told(3, 4), 1);
        Check.same("joined it is not", x.told(2, 4), 0);
        Check.refused(x, "nothing is joined into it any more", Check.STATE, () -> x.join(2, 3));
        x.split(3);
        x.join(4, 3);
        Check.same("the next one is not, either", x.told(3, 4), 0);
        Check.same("and it stays so", x.told(2, 4), 0);
        Check.same("the last one is open", x.told(4, 4), 1);
    }

    private static void blockedAsLong() {
        LotRules x = Given.lots(1);
        x.right(0, 2, true);
        x.right(1, 5, true);
        x.block(1, 2);
        x.block(1, 5);
        Check.same("two reasons: not taken", x.order(0, 0, 0), -1);
        x.release(1, 0);
        Check.same("one reason is left: not taken", x.order(0, 0, 0), -1);
        Check.holds("nor allowed", !x.allowed(1, 0, 55));
        x.release(1, 1);
        Check.same("no reason is left: taken", x.order(0, 0, 0), 1);
        Check.holds("and allowed", x.allowed(1, 0, 55));
    }

    private static void eachReasonOnce() {
        LotRules x = Given.lots(2);
        x.right(0, 4, true);
        Check.same("once", x.block(1, 4), 1);
        Check.refused(x, "twice", Check.STATE, () -> x.block(1, 4));
        Check.same("another lot", x.block(2, 4), 1);
        Check.same("once to release", x.release(1, 0), 1);
        Check.refused(x, "nothing is left", Check.STATE, () -> x.release(1, 0));
        Check.same("and once again", x.block(1, 4), 1);
    }

    private static void quarantine() {
        LotRules x = Given.lots(2);
        Check.same("at first it is not", x.told(1, 6), 0);
        x.quarantine(1, true);
        Check.same("it is", x.told(1, 6), 1);
        Check.same("another one is not", x.told(2, 6), 0);
        Check.same("a block beside it", x.block(1, 1), 1);
        x.right(0, 1, true);
        x.release(1, 0);
        Check.same("a release leaves it there", x.told(1, 6), 1);
        x.quarantine(1, false);
        Check.same("it is not any more", x.told(1, 6), 0);
    }

    private static void unitOfOneLot() {
        LotRules x = Given.lots(3);
        x.unit(2);
        x.unit(3);
        Check.same("unit 1 is of lot 2", x.where(1, 0), 2);
        Check.same("and counts there", x.told(2, 7), 1);
        x.join(1, 2);
        Check.same("it comes along", x.where(1, 0), 1);
        Check.same("counts there", x.told(1, 7), 1);
        Check.same("and not here", x.told(2, 7), 0);
        Check.same("another lot's unit does not", x.where(2, 0), 3);
    }

    private static void unitIsSomewhere() {
        LotRules x = Given.lots(1);
        x.unit(1);
        x.unit(1);
        isAt(x, "in no bin", 1, -1, -1, -1);
        x.put(1, 7);
        isAt(x, "in a bin", 1, 7, -1, -1);
        isAt(x, "the other one in none", 2, -1, -1, -1);
        x.ship(1, 2, 55);
        isAt(x, "gone, and in no bin", 1, -1, 2, 55);
        x.ship(2, 0, 50);
        isAt(x, "gone without a bin", 2, -1, 0, 50);
        Check.refused(x, "what is gone comes into no bin", Check.STATE, () -> x.put(1, 7));
        Check.refused(x, "nor to another customer", Check.STATE, () -> x.ship(1, 3, 55));
    }

    private static void isAt(LotRules x, String what, int unit, int bin, int customer, int day) {
        Check.same(what + ": its bin", x.where(unit, 1), bin);
        Check.same(what + ": its customer", x.where(unit, 2), customer);
        Check.same(what + ": its day", x.where(unit, 3), day);
    }
}
