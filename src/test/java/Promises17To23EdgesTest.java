/** Promises 17 to 23 (recall to count), a test for each sentence that names a boundary. */
public final class Promises17To23EdgesTest {
    public static void main(String[] args) {
        Check.sentence("17: The i-th unit (upward)", Promises17To23EdgesTest::recallUpward);
        Check.sentence("17: that ever was of a lot of this one's family", Promises17To23EdgesTest::recallEver);
        Check.sentence("17: -1 past the end", Promises17To23EdgesTest::recallPastTheEnd);
        Check.sentence("17: IllegalArgumentException if i is below 0", Promises17To23EdgesTest::recallBelow);
        Check.sentence("18: 0 its lot, 1 its bin (-1 none), 2 the customer (-1), 3 the day of that (-1)",
                Promises17To23EdgesTest::where);
        Check.sentence("18: NoSuchElementException, IllegalArgumentException", Promises17To23EdgesTest::whereRefused);
        Check.sentence("19: its kind (what = 0), its number (1)", Promises17To23EdgesTest::historyWhat);
        Check.sentence("19: NoSuchElementException also if there is no such row", Promises17To23EdgesTest::historyNoSuchRow);
        Check.sentence("20: 4 whether it is open", Promises17To23EdgesTest::toldOpen);
        Check.sentence("20: of a lot that is not open", Promises17To23EdgesTest::toldOfAJoinedLot);
        Check.sentence("20: 5 the reasons that block it as bits (reason r bit r)", Promises17To23EdgesTest::toldReasons);
        Check.sentence("20: 7 how many units it has that are not gone", Promises17To23EdgesTest::toldUnits);
        Check.sentence("20: NoSuchElementException, IllegalArgumentException", Promises17To23EdgesTest::toldRefused);
        Check.sentence("21: year, month, day, two digits each (format 0)", Promises17To23EdgesTest::dayFormat0);
        Check.sentence("21: day, month, year (1)", Promises17To23EdgesTest::dayFormat1);
        Check.sentence("21: year and the day in it, three digits (2: 001 .. 366)", Promises17To23EdgesTest::dayFormat2);
        Check.sentence("21: -1 if there is no such day", Promises17To23EdgesTest::noSuchDay);
        Check.sentence("21: IllegalArgumentException for another format", Promises17To23EdgesTest::dayOtherFormat);
        Check.sentence("21: or a date that is not 0 .. 999999 (0 .. 99999 for 2)", Promises17To23EdgesTest::dayOtherDate);
        Check.sentence("22: A day in one of these writings", Promises17To23EdgesTest::date);
        Check.sentence("22: IllegalArgumentException: no such format or day", Promises17To23EdgesTest::dateRefused);
        Check.sentence("23: 0 lots, 1 units, 2 rows of history, 3 units that are gone", Promises17To23EdgesTest::count);
        Check.sentence("23: -1 for another what", Promises17To23EdgesTest::countOther);
        Check.end();
    }

    private static void recallUpward() {
        LotRules x = Given.lots(1);
        x.split(1);
        x.split(1);
        int[] lots = {3, 1, 2, 2, 1, 3};
        for (int lot : lots) {
            x.unit(lot);
        }
        for (int i = 0; i < lots.length; i++) {
            Check.same("recall(1, " + i + ")", x.recall(1, i), i + 1);
        }
        Check.same("of lot 2 the first", x.recall(2, 0), 3);
        Check.same("of lot 2 the second", x.recall(2, 1), 4);
        Check.same("of lot 3 the second", x.recall(3, 1), 6);
    }

    private static void recallEver() {
        LotRules x = Given.lots(3);
        x.unit(1);
        x.unit(2);
        x.ship(1, 0, 55);
        Check.same("one that went", x.recall(1, 0), 1);
        x.join(2, 1);
        Check.same("one that is of another lot now", x.recall(1, 0), 1);
        Check.same("and no other one", x.recall(1, 1), -1);
        Check.same("it was of that one, too", x.recall(2, 0), 1);
        Check.same("beside its own", x.recall(2, 1), 2);
        x.join(3, 2);
        Check.same("two joins later, of the first", x.recall(1, 0), 1);
        Check.same("of the second", x.recall(2, 1), 2);
        Check.same("of the third", x.recall(3, 1), 2);
        x.unit(3);
        Check.same("a later one is not of the second", x.recall(2, 2), -1);
        Check.same("but of the third", x.recall(3, 2), 3);
    }

    private static void recallPastTheEnd() {
        LotRules x = Given.lots(2);
        Check.same("no unit at all", x.recall(1, 0), -1);
        for (int unit = 1; unit <= 120; unit++) {
            x.unit(1);
            Check.same("the last of " + unit, x.recall(1, unit - 1), unit);
            Check.same("just past the end of " + unit, x.recall(1, unit), -1);
        }
        for (int i : new int[] {121, 256, 65536, Integer.MAX_VALUE}) {
            Check.same("recall(1, " + i + ")", x.recall(1, i), -1);
        }
        Check.same("a lot without units", x.recall(2, 0), -1);
    }

    private static void recallBelow() {
        LotRules x = Given.lots(2);
        x.unit(1);
        for (int i : new int[] {-1, -2, -256, -65536, Integer.MIN_VALUE}) {
            Check.refused(x, "recall(1, " + i + ")", Check.ARGUMENT, () -> x.recall(1, i));
            Check.refused(x, "recall(2, " + i + ") without units", Check.ARGUMENT, () -> x.recall(2, i));
        }
    }

    private static void whereIs(LotRules x, int unit, int... due) {
        for (int what = 0; what < due.length; what++) {
            Check.same("where(" + unit + ", " + what + ")", x.where(unit, what), due[what]);
        }
    }

    private static void where() {
        LotRules x = Given.lots(2);
        x.unit(2);
        whereIs(x, 1, 2, -1, -1, -1);
        x.put(1, 0);
        whereIs(x, 1, 2, 0, -1, -1);
        x.put(1, 19);
        whereIs(x, 1, 2, 19, -1, -1);
        x.join(1, 2);
        whereIs(x, 1, 1, 19, -1, -1);
        x.ship(1, 7, 60);
        whereIs(x, 1, 1, -1, 7, 60);
        x.unit(1);
        whereIs(x, 2, 1, -1, -1, -1);
    }

    private static void whereRefused() {
        LotRules x = Given.lots(1);
        Check.refused(x, "no unit yet", Check.NO_SUCH, () -> x.where(1, 0));
        x.unit(1);
        for (int unit : Given.outside(1, 1)) {
            Check.refused(x, "unit " + unit, Check.NO_SUCH, () -> x.where(unit, 0));
            Check.refused(x, "unit " + unit + ", another what", Check.NO_SUCH, () -> x.where(unit, 4));
        }
        for (int what : Given.outside(0, 3)) {
            Check.refused(x, "what " + what, Check.ARGUMENT, () -> x.where(1, what));
        }
    }

    private static void historyWhat() {
        LotRules x = Given.lots(1);
        x.block(1, 9);
        Check.same("kind", x.history(1, 1, 0), 6);
        Check.same("number", x.history(1, 1, 1), 9);
        for (int what : Given.outside(0, 1)) {
            Check.refused(x, "what " + what, Check.ARGUMENT, () -> x.history(1, 1, what));
        }
    }

    private static void historyNoSuchRow() {
        LotRules x = Given.lots(2);
        x.unit(2);
        Check.same("the last row", x.history(2, 1, 0), 10);
        for (int i : Given.outside(0, 1)) {
            Check.refused(x, "row " + i + ", kind", Check.NO_SUCH, () -> x.history(2, i, 0));
            Check.refused(x, "row " + i + ", number", Check.NO_SUCH, () -> x.history(2, i, 1));
            Check.refused(x, "row " + i + ", another what", Check.NO_SUCH, () -> x.history(2, i, 2));
            Check.refused(x, "row " + i + ", a what below 0", Check.NO_SUCH, () -> x.history(2, i, -1));
        }
        Check.refused(x, "a row that another lot has", Check.NO_SUCH, () -> x.history(1, 1, 0));
        x.block(2, 1);
        Check.same("a row that was not there before", x.history(2, 2, 0), 6);
        Given.fillRows(x, 1, 400);
        Check.same("the last of 397", x.history(1, 396, 0), 9);
        Check.refused(x, "behind it", Check.NO_SUCH, () -> x.history(1, 397, 0));
        Check.refused(x, "as many as there are in all", Check.NO_SUCH, () -> x.history(1, 400, 0));
    }

    private static void toldOpen() {
        LotRules x = Given.lots(2);
        Check.same("open", x.told(1, 4), 1);
        x.join(2, 1);
        Check.same("not open", x.told(1, 4), 0);
        Check.same("open on", x.told(2, 4), 1);
        int[] due = {0, 0, 60, 50};
        for (int what = 0; what < due.length; what++) {
            Check.same("a joined one: told(1, " + what + ")", x.told(1, what), due[what]);
        }
    }

    private static void toldOfAJoinedLot() {
        LotRules x = Given.lots(2);
        for (int lot = 1; lot <= 2; lot++) {
            x.block(lot, 3);
            x.quarantine(lot, true);
        }
        x.right(0, 3, true);
        x.join(2, 1);
        x.release(2, 0);
        x.quarantine(2, false);
        Check.same("no call released it", x.told(1, 5), 8);
        Check.same("nor took it out of quarantine", x.told(1, 6), 1);
    }

    private static void toldReasons() {
        LotRules x = Given.lots(10);
        Check.same("no reason", x.told(10, 5), 0);
        for (int reason = 1; reason <= 9; reason++) {
            x.block(reason, reason);
            Check.same("reason " + reason, x.told(reason, 5), 1 << reason);
            x.block(10, reason);
        }
        Check.same("all reasons", x.told(10, 5), 1022);
    }

    private static void toldUnits() {
        LotRules x = Given.lots(2);
        Check.same("none", x.told(1, 7), 0);
        for (int unit = 1; unit <= 120; unit++) {
            x.unit(1);
        }
        Check.same("all", x.told(1, 7), 120);
        Check.same("the other lot", x.told(2, 7), 0);
        x.put(2, 0);
        for (int unit = 1; unit <= 120; unit++) {
            x.ship(unit, unit % 8, 55);
            Check.same("without those that went", x.told(1, 7), 120 - unit);
        }
    }

    private static void toldRefused() {
        LotRules x = new LotRules();
        Check.refused(x, "no lot yet", Check.NO_SUCH, () -> x.told(1, 0));
        x.lot(0, 0, 60, 50);
        for (int lot : Given.outside(1, 1)) {
            Check.refused(x, "lot " + lot, Check.NO_SUCH, () -> x.told(lot, 0));
            Check.refused(x, "lot " + lot + ", another what", Check.NO_SUCH, () -> x.told(lot, 8));
        }
        for (int what : Given.outside(0, 7)) {
            Check.refused(x, "what " + what, Check.ARGUMENT, () -> x.told(1, what));
        }
    }

    private static void days(int format, int[][] due) {
        LotRules x = new LotRules();
        for (int[] pair : due) {
            Check.same("day(" + format + ", " + pair[0] + ")", x.day(format, pair[0]), pair[1]);
        }
    }

    private static void dayFormat0() {
        days(0, new int[][] {
            {101, 0}, {131, 30}, {201, 31}, {228, 58}, {229, 59}, {301, 60}, {1231, 365}, {10101, 366}, {10228, 424},
            {10229, -1}, {10301, 425}, {40229, 1520}, {990101, 36160}, {991231, 36524}, {960229, 35123}, {970229, -1},
        });
    }

    private static void dayFormat1() {
        days(1, new int[][] {
            {10100, 0}, {310100, 30}, {10200, 31}, {280200, 58}, {290200, 59}, {10300, 60}, {311200, 365},
            {10101, 366}, {280201, 424}, {290201, -1}, {10301, 425}, {290204, 1520}, {10199, 36160}, {311299, 36524},
            {290296, 35123}, {290297, -1}, {991231, -1},
        });
    }

    private static void dayFormat2() {
        days(2, new int[][] {
            {0, -1}, {1, 0}, {365, 364}, {366, 365}, {367, -1}, {999, -1}, {1000, -1}, {1001, 366}, {1365, 730},
            {1366, -1}, {4366, 1826}, {96366, 35429}, {97366, -1}, {99000, -1}, {99001, 36160}, {99365, 36524},
            {99366, -1}, {99999, -1},
        });
    }

    private static void noSuchDay() {
        LotRules x = new LotRules();
        int[] most = {31, 29, 31, 30, 31, 30, 31, 31, 30, 31, 30, 31};
        for (int month = 1; month <= 12; month++) {
            int last = most[month - 1];
            Check.holds("the last of month " + month, x.day(0, 40000 + month * 100 + last) >= 0);
            Check.same("one behind it", x.day(0, 40000 + month * 100 + last + 1), -1);
            Check.same("day 0 of month " + month, x.day(0, 40000 + month * 100), -1);
            Check.same("day 99 of month " + month, x.day(0, 40000 + month * 100 + 99), -1);
            Check.holds("the last of month " + month + ", day first", x.day(1, last * 10000 + month * 100 + 4) >= 0);
            Check.same("one behind it, day first", x.day(1, (last + 1) * 10000 + month * 100 + 4), -1);
            Check.same("day 0 of month " + month + ", day first", x.day(1, month * 100 + 4), -1);
        }
        for (int month : new int[] {0, 13, 14, 99}) {
            Check.same("month " + month, x.day(0, 40000 + month * 100 + 1), -1);
            Check.same("month " + month + ", day first", x.day(1, 10000 + month * 100 + 4), -1);
        }
        Check.same("nothing", x.day(0, 0), -1);
        Check.same("nothing, day first", x.day(1, 0), -1);
        Check.same("the greatest date", x.day(0, 999999), -1);
        Check.same("the greatest date, day first", x.day(1, 999999), -1);
    }

    private static void dayOtherFormat() {
        LotRules x = new LotRules();
        for (int format : Given.outside(0, 2)) {
            Check.refused(x, "format " + format, Check.ARGUMENT, () -> x.day(format, 10101));
            Check.refused(x, "format " + format + ", no date either", Check.ARGUMENT, () -> x.day(format, -1));
        }
    }

    private static void dayOtherDate() {
        LotRules x = new LotRules();
        for (int date : Given.outside(0, 999999)) {
            Check.refused(x, "format 0, " + date, Check.ARGUMENT, () -> x.day(0, date));
            Check.refused(x, "format 1, " + date, Check.ARGUMENT, () -> x.day(1, date));
            Check.refused(x, "format 2, " + date, Check.ARGUMENT, () -> x.day(2, date));
        }
        for (int date : Given.outside(0, 99999)) {
            Check.refused(x, "format 2, " + date, Check.ARGUMENT, () -> x.day(2, date));
        }
        Check.refused(x, "format 2, 999999", Check.ARGUMENT, () -> x.day(2, 999999));
        Check.same("format 0, 100101 is one of its dates", x.day(0, 100101), 3653);
    }

    private static void date() {
        LotRules x = new LotRules();
        int[][] due = {
            {0, 101, 10100, 1}, {30, 131, 310100, 31}, {31, 201, 10200, 32}, {59, 229, 290200, 60},
            {60, 301, 10300, 61}, {365, 1231, 311200, 366}, {366, 10101, 10101, 1001}, {424, 10228, 280201, 1059},
            {425, 10301, 10301, 1060}, {1520, 40229, 290204, 4060}, {36159, 981231, 311298, 98365},
            {36160, 990101, 10199, 99001}, {36524, 991231, 311299, 99365},
        };
        for (int[] row : due) {
            for (int format = 0; format <= 2; format++) {
                Check.same("date(" + format + ", " + row[0] + ")", x.date(format, row[0]), row[format + 1]);
                Check.same("and back", x.day(format, row[format + 1]), row[0]);
            }
        }
    }

    private static void dateRefused() {
        LotRules x = new LotRules();
        for (int format : Given.outside(0, 2)) {
            Check.refused(x, "format " + format, Check.ARGUMENT, () -> x.date(format, 0));
        }
        for (int day : Given.outside(0, 36524)) {
            for (int format = 0; format <= 2; format++) {
                int writing = format;
                Check.refused(x, "date(" + writing + ", " + day + ")", Check.ARGUMENT, () -> x.date(writing, day));
            }
        }
    }

    private static void counted(LotRules x, String what, int... due) {
        for (int i = 0; i < due.length; i++) {
            Check.same(what + ": count(" + i + ")", x.count(i), due[i]);
        }
    }

    private static void count() {
        LotRules x = new LotRules();
        counted(x, "new", 0, 0, 0, 0);
        x.lot(0, 0, 60, 50);
        counted(x, "lot", 1, 0, 1, 0);
        x.split(1);
        counted(x, "split", 2, 0, 3, 0);
        x.unit(2);
        counted(x, "unit", 2, 1, 4, 0);
        x.put(1, 0);
        counted(x, "put", 2, 1, 4, 0);
        x.ship(1, 0, 55);
        counted(x, "ship", 2, 1, 5, 1);
        x.join(1, 2);
        counted(x, "join", 2, 1, 7, 1);
        x.block(1, 1);
        x.block(1, 2);
        counted(x, "blocks", 2, 1, 9, 1);
        x.right(0, 1, true);
        x.right(0, 2, true);
        x.release(1, 0);
        counted(x, "a release of two", 2, 1, 10, 1);
        x.quarantine(1, true);
        x.quarantine(1, false);
        counted(x, "quarantine", 2, 1, 12, 1);
        Given.fillRows(x, 1, 400);
        counted(x, "all rows", 2, 1, 400, 1);
    }

    private static void countOther() {
        LotRules x = Given.lots(2);
        for (int what : Given.outside(0, 3)) {
            Check.same("count(" + what + ")", x.count(what), -1);
        }
    }
}
