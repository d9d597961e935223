import java.util.NoSuchElementException;

/** Rules for the lots of a warehouse; ../shared/DOC.md holds the promises that are named by number here. */
public final class LotRules {
    private static final int GOODS = 10;
    private static final int OWNERS = 8;
    private static final int CUSTOMERS = 8;
    private static final int PERSONS = 8;
    private static final int BINS = 20;
    private static final int LAST_REASON = 9;
    private static final int LAST_DAY = 36524;

    private static final int MOST_LOTS = 40;
    private static final int MOST_UNITS = 120;
    private static final int MOST_ROWS = 400;
    private static final int MOST_DAYS_OF_A_RULE = 1000;

    private static final int KIND_ROTATION = 0;
    private static final int KIND_MIXTURE = 1;

    private static final int SHORTEST_GOOD_FIRST = 0;
    private static final int LAST_ARRIVED_FIRST = 2;

    private static final int MADE = 1;
    private static final int SPLIT_FROM = 2;
    private static final int SPLIT_OFF = 3;
    private static final int JOINED_BY = 4;
    private static final int JOINED_INTO = 5;
    private static final int BLOCKED = 6;
    private static final int RELEASED = 7;
    private static final int INTO_QUARANTINE = 8;
    private static final int OUT_OF_QUARANTINE = 9;
    private static final int UNIT_MADE = 10;
    private static final int UNIT_WENT = 11;

    private static final int YEAR_MONTH_DAY = 0;
    private static final int DAY_MONTH_YEAR = 1;
    private static final int YEAR_AND_DAY = 2;

    // Lots are numbered from 1, so 0 can say that there is no lot.
    private static final int NO_LOT = 0;
    // Bins, customers, days and rows are numbered from 0, so here -1 says that there is none.
    private static final int NONE = -1;

    private final Lots lots;
    private final Units units;
    private final Rows rows;
    private final int[] rotations;
    private final int[] mixtures;
    private final int[] wantedDays;
    private final int[] releasableReasons;
    private int refusedLot;
    private int hinderingLot;

    public LotRules() {
        lots = new Lots();
        units = new Units();
        rows = new Rows();
        rotations = new int[OWNERS];
        mixtures = new int[OWNERS];
        wantedDays = new int[CUSTOMERS];
        releasableReasons = new int[PERSONS];
        for (int customer = 0; customer < CUSTOMERS; customer++) {
            wantedDays[customer] = 1;
        }
        refusedLot = NO_LOT;
        hinderingLot = NO_LOT;
    }

    public int lot(int good, int owner, int until, int arrived)
            throws IllegalArgumentException, UnsupportedOperationException {
        requireRange(good, 0, GOODS - 1);
        requireRange(owner, 0, OWNERS - 1);
        requireRange(until, 0, LAST_DAY);
        requireRange(arrived, 0, LAST_DAY);
        if (until < arrived) {
            return NO_LOT;
        }
        requireRoom(lots.haveRoom() && rows.haveRoomFor(1));
        int made = lots.add(good, owner, until, arrived);
        rows.write(made, MADE, 0);
        return made;
    }

    public void rule(int owner, int kind, int days) throws IllegalArgumentException {
        requireRange(owner, 0, OWNERS - 1);
        requireRange(kind, KIND_ROTATION, KIND_MIXTURE);
        if (kind == KIND_ROTATION) {
            requireRange(days, SHORTEST_GOOD_FIRST, LAST_ARRIVED_FIRST);
            rotations[owner] = days;
        } else {
            requireRange(days, 0, MOST_DAYS_OF_A_RULE);
            mixtures[owner] = days;
        }
    }

    public void wants(int customer, int days) throws IllegalArgumentException {
        requireRange(customer, 0, CUSTOMERS - 1);
        requireRange(days, 1, MOST_DAYS_OF_A_RULE);
        wantedDays[customer] = days;
    }

    public void right(int person, int reason, boolean may) throws IllegalArgumentException {
        requireRange(person, 0, PERSONS - 1);
        requireRange(reason, 1, LAST_REASON);
        if (may) {
            releasableReasons[person] |= 1 << reason;
        } else {
            releasableReasons[person] &= ~(1 << reason);
        }
    }

    public int block(int lot, int reason) throws NoSuchElementException, IllegalArgumentException,
            IllegalStateException, UnsupportedOperationException {
        requireLot(lot);
        requireRange(reason, 1, LAST_REASON);
        int bit = 1 << reason;
        requireState(lots.open[lot] && (lots.reasons[lot] & bit) == 0);
        requireRoom(rows.haveRoomFor(1));
        lots.reasons[lot] |= bit;
        rows.write(lot, BLOCKED, reason);
        return Integer.bitCount(lots.reasons[lot]);
    }

    public int release(int lot, int person) throws NoSuchElementException, IllegalArgumentException,
            IllegalStateException, UnsupportedOperationException {
        requireLot(lot);
        requireRange(person, 0, PERSONS - 1);
        int released = lots.reasons[lot] & releasableReasons[person];
        requireState(lots.open[lot] && released != 0);
        requireRoom(rows.haveRoomFor(1));
        lots.reasons[lot] &= ~released;
        rows.write(lot, RELEASED, person);
        return Integer.bitCount(released);
    }

    public void quarantine(int lot, boolean on) throws NoSuchElementException, IllegalStateException,
            UnsupportedOperationException {
        requireLot(lot);
        requireState(lots.open[lot] && lots.quarantined[lot] != on);
        requireRoom(rows.haveRoomFor(1));
        lots.quarantined[lot] = on;
        rows.write(lot, on ? INTO_QUARANTINE : OUT_OF_QUARANTINE, 0);
    }

    public int order(int good, int owner, int i) throws IllegalArgumentException {
        requireRange(good, 0, GOODS - 1);
        requireRange(owner, 0, OWNERS - 1);
        requireNotNegative(i);
        for (int lot = 1; lot <= lots.made; lot++) {
            if (lots.mayBeTakenFor(lot, good, owner) && lots.rivalsBefore(lot, rotations[owner]) == i) {
                return lot;
            }
        }
        return NONE;
    }

    public boolean allowed(int lot, int customer, int day) throws NoSuchElementException,
            IllegalArgumentException {
        requireLot(lot);
        requireRange(customer, 0, CUSTOMERS - 1);
        requireRange(day, 0, LAST_DAY);
        return mayGo(lot, customer, day);
    }

    public int split(int lot) throws NoSuchElementException, IllegalStateException,
            UnsupportedOperationException {
        requireLot(lot);
        requireState(lots.open[lot]);
        requireRoom(lots.haveRoom() && rows.haveRoomFor(2));
        int part = lots.addPartOf(lot);
        rows.write(part, SPLIT_FROM, lot);
        rows.write(lot, SPLIT_OFF, part);
        return part;
    }

    public void join(int lot, int other) throws NoSuchElementException, IllegalStateException,
            UnsupportedOperationException {
        requireLot(lot);
        requireLot(other);
        requireState(lot != other && lots.open[lot] && lots.open[other] && lots.areAlike(lot, other));
        requireRoom(rows.haveRoomFor(2));
        lots.closeInto(lot, other);
        units.moveAll(other, lot);
        rows.write(lot, JOINED_BY, other);
        rows.write(other, JOINED_INTO, lot);
    }

    public int unit(int lot) throws NoSuchElementException, IllegalStateException,
            UnsupportedOperationException {
        requireLot(lot);
        requireState(lots.open[lot]);
        requireRoom(units.haveRoom() && rows.haveRoomFor(1));
        int made = units.add(lot);
        rows.write(lot, UNIT_MADE, made);
        return made;
    }

    public void put(int unit, int bin) throws NoSuchElementException, IllegalArgumentException,
            IllegalStateException {
        requireUnit(unit);
        requireRange(bin, 0, BINS - 1);
        requireState(!units.isGone(unit) && units.bins[unit] != bin);
        int hindering = lotThatHinders(unit, bin);
        if (hindering != NO_LOT) {
            refusedLot = units.lotOf[unit];
            hinderingLot = hindering;
            throw new IllegalStateException("it may not lie with what is there");
        }
        units.bins[unit] = bin;
    }

    public int mixed(int side) throws IllegalArgumentException {
        requireRange(side, 0, 1);
        return side == 0 ? refusedLot : hinderingLot;
    }

    public void ship(int unit, int customer, int day) throws NoSuchElementException,
            IllegalArgumentException, IllegalStateException, UnsupportedOperationException {
        requireUnit(unit);
        requireRange(customer, 0, CUSTOMERS - 1);
        requireRange(day, 0, LAST_DAY);
        int lot = units.lotOf[unit];
        requireState(!units.isGone(unit) && mayGo(lot, customer, day));
        requireRoom(rows.haveRoomFor(1));
        units.send(unit, customer, day);
        rows.write(lot, UNIT_WENT, unit);
    }

    public int recall(int lot, int i) throws NoSuchElementException, IllegalArgumentException {
        requireLot(lot);
        requireNotNegative(i);
        return units.everOfFamily(lots.familyOf(lot), i);
    }

    public int where(int unit, int what) throws NoSuchElementException, IllegalArgumentException {
        requireUnit(unit);
        switch (what) {
            case 0:
                return units.lotOf[unit];
            case 1:
                return units.bins[unit];
            case 2:
                return units.customers[unit];
            case 3:
                return units.daysOfGoing[unit];
            default:
                throw new IllegalArgumentException("what is not 0 .. 3");
        }
    }

    public int history(int lot, int i, int what) throws NoSuchElementException, IllegalArgumentException {
        requireLot(lot);
        int row = rows.find(lot, i);
        if (row == NONE) {
            throw new NoSuchElementException("no such row");
        }
        requireRange(what, 0, 1);
        return what == 0 ? rows.kinds[row] : rows.numbers[row];
    }

    public int told(int lot, int what) throws NoSuchElementException, IllegalArgumentException {
        requireLot(lot);
        switch (what) {
            case 0:
                return lots.goods[lot];
            case 1:
                return lots.owners[lot];
            case 2:
                return lots.lastDays[lot];
            case 3:
                return lots.arrivals[lot];
            case 4:
                return lots.open[lot] ? 1 : 0;
            case 5:
                return lots.reasons[lot];
            case 6:
                return lots.quarantined[lot] ? 1 : 0;
            case 7:
                return units.leftOf(lot);
            default:
                throw new IllegalArgumentException("what is not 0 .. 7");
        }
    }

    public int day(int format, int date) throws IllegalArgumentException {
        requireRange(format, YEAR_MONTH_DAY, YEAR_AND_DAY);
        requireRange(date, 0, format == YEAR_AND_DAY ? 99999 : 999999);
        if (format == YEAR_AND_DAY) {
            return Calendar.fromYearDay(date / 1000, date % 1000);
        }
        int first = date / 10000;
        int month = date / 100 % 100;
        int last = date % 100;
        return format == DAY_MONTH_YEAR
                ? Calendar.fromMonthDay(last, month, first)
                : Calendar.fromMonthDay(first, month, last);
    }

    public int date(int format, int day) throws IllegalArgumentException {
        requireRange(format, YEAR_MONTH_DAY, YEAR_AND_DAY);
        requireRange(day, 0, LAST_DAY);
        int year = Calendar.yearOf(day);
        int yearDay = day - Calendar.startOfYear(year) + 1;
        if (format == YEAR_AND_DAY) {
            return year * 1000 + yearDay;
        }
        int month = Calendar.monthOf(year, yearDay);
        int monthDay = yearDay - Calendar.daysBefore(year, month);
        return format == DAY_MONTH_YEAR
                ? monthDay * 10000 + month * 100 + year
                : year * 10000 + month * 100 + monthDay;
    }

    public int count(int what) {
        switch (what) {
            case 0:
                return lots.made;
            case 1:
                return units.made;
            case 2:
                return rows.written;
            case 3:
                return units.gone;
            default:
                return NONE;
        }
    }

    private boolean mayGo(int lot, int customer, int day) {
        return lots.mayBeTaken(lot)
                && day >= lots.arrivals[lot]
                && day <= lots.lastDays[lot]
                && lots.lastDays[lot] - day + 1 >= wantedDays[customer];
    }

    private int lotThatHinders(int unit, int bin) {
        int lot = units.lotOf[unit];
        int mixture = mixtures[lots.owners[lot]];
        for (int lying = 1; lying <= units.made; lying++) {
            if (units.bins[lying] == bin && lots.lieTooFarApart(lot, units.lotOf[lying], mixture)) {
                return units.lotOf[lying];
            }
        }
        return NO_LOT;
    }

    private void requireLot(int lot) {
        if (lot < 1 || lot > lots.made) {
            throw new NoSuchElementException("no such lot");
        }
    }

    private void requireUnit(int unit) {
        if (unit < 1 || unit > units.made) {
            throw new NoSuchElementException("no such unit");
        }
    }

    private static void requireRange(int number, int least, int most) {
        if (number < least || number > most) {
            throw new IllegalArgumentException("a number outside its range");
        }
    }

    private static void requireNotNegative(int i) {
        if (i < 0) {
            throw new IllegalArgumentException("i is below 0");
        }
    }

    private static void requireState(boolean holds) {
        if (!holds) {
            throw new IllegalStateException("not as it is now");
        }
    }

    private static void requireRoom(boolean thereIs) {
        if (!thereIs) {
            throw new UnsupportedOperationException("no room");
        }
    }

    /** The lots, a column for each thing that is known of them; the caller has tested every number it hands in. */
    private static final class Lots {
        final int[] goods;
        final int[] owners;
        final int[] lastDays;
        final int[] arrivals;
        final boolean[] open;
        final int[] reasons;
        final boolean[] quarantined;
        // Bit n: lot n was split from this one or joined into it.
        final long[] kin;
        int made;

        Lots() {
            goods = new int[MOST_LOTS + 1];
            owners = new int[MOST_LOTS + 1];
            lastDays = new int[MOST_LOTS + 1];
            arrivals = new int[MOST_LOTS + 1];
            open = new boolean[MOST_LOTS + 1];
            reasons = new int[MOST_LOTS + 1];
            quarantined = new boolean[MOST_LOTS + 1];
            kin = new long[MOST_LOTS + 1];
            made = 0;
        }

        boolean haveRoom() {
            return made < MOST_LOTS;
        }

        int add(int good, int owner, int lastDay, int arrival) {
            made++;
            goods[made] = good;
            owners[made] = owner;
            lastDays[made] = lastDay;
            arrivals[made] = arrival;
            open[made] = true;
            return made;
        }

        int addPartOf(int whole) {
            int part = add(goods[whole], owners[whole], lastDays[whole], arrivals[whole]);
            reasons[part] = reasons[whole];
            quarantined[part] = quarantined[whole];
            kin[whole] |= 1L << part;
            return part;
        }

        void closeInto(int lot, int closed) {
            open[closed] = false;
            kin[lot] |= 1L << closed;
        }

        // The arrival is left out: lots that came on other days may still be joined.
        boolean areAlike(int lot, int other) {
            return goods[lot] == goods[other]
                    && owners[lot] == owners[other]
                    && lastDays[lot] == lastDays[other]
                    && reasons[lot] == reasons[other]
                    && quarantined[lot] == quarantined[other];
        }

        boolean lieTooFarApart(int lot, int other, int mixture) {
            return goods[lot] == goods[other]
                    && owners[lot] == owners[other]
                    && Math.abs(lastDays[lot] - lastDays[other]) > mixture;
        }

        boolean mayBeTaken(int lot) {
            return open[lot] && reasons[lot] == 0 && !quarantined[lot];
        }

        boolean mayBeTakenFor(int lot, int good, int owner) {
            return goods[lot] == good && owners[lot] == owner && mayBeTaken(lot);
        }

        // A lot's place is how many come before it: this needs no sorted copy, so a call makes no objects.
        int rivalsBefore(int lot, int rotation) {
            int before = 0;
            for (int rival = 1; rival <= made; rival++) {
                if (mayBeTakenFor(rival, goods[lot], owners[lot]) && comesBefore(rival, lot, rotation)) {
                    before++;
                }
            }
            return before;
        }

        private boolean comesBefore(int lot, int other, int rotation) {
            if (rotation == LAST_ARRIVED_FIRST) {
                return arrivedBefore(other, lot);
            }
            if (rotation == SHORTEST_GOOD_FIRST && lastDays[lot] != lastDays[other]) {
                return lastDays[lot] < lastDays[other];
            }
            return arrivedBefore(lot, other);
        }

        private boolean arrivedBefore(int lot, int other) {
            if (arrivals[lot] != arrivals[other]) {
                return arrivals[lot] < arrivals[other];
            }
            return lot < other;
        }

        // A lot may be split off and then joined by its own origin, so kinship can run in a ring:
        // as many rounds as there are lots reach everyone, whatever its shape.
        long familyOf(int lot) {
            long family = 1L << lot;
            for (int round = 1; round <= made; round++) {
                for (int member = 1; member <= made; member++) {
                    if ((family & 1L << member) != 0) {
                        family |= kin[member];
                    }
                }
            }
            return family;
        }
    }

    /** The units, in columns as the lots are. */
    private static final class Units {
        final int[] lotOf;
        final int[] bins;
        final int[] customers;
        final int[] daysOfGoing;
        // All that a recall needs: every lot into which a unit came later, by a join, has this one in its family.
        final int[] firstLotOf;
        int made;
        int gone;

        Units() {
            lotOf = new int[MOST_UNITS + 1];
            bins = new int[MOST_UNITS + 1];
            customers = new int[MOST_UNITS + 1];
            daysOfGoing = new int[MOST_UNITS + 1];
            firstLotOf = new int[MOST_UNITS + 1];
            made = 0;
            gone = 0;
        }

        boolean haveRoom() {
            return made < MOST_UNITS;
        }

        int add(int lot) {
            made++;
            lotOf[made] = lot;
            bins[made] = NONE;
            customers[made] = NONE;
            daysOfGoing[made] = NONE;
            firstLotOf[made] = lot;
            return made;
        }

        boolean isGone(int unit) {
            return customers[unit] != NONE;
        }

        void send(int unit, int customer, int dayOfGoing) {
            bins[unit] = NONE;
            customers[unit] = customer;
            daysOfGoing[unit] = dayOfGoing;
            gone++;
        }

        void moveAll(int from, int to) {
            for (int unit = 1; unit <= made; unit++) {
                if (lotOf[unit] == from) {
                    lotOf[unit] = to;
                }
            }
        }

        int leftOf(int lot) {
            int left = 0;
            for (int unit = 1; unit <= made; unit++) {
                if (lotOf[unit] == lot && !isGone(unit)) {
                    left++;
                }
            }
            return left;
        }

        int everOfFamily(long family, int i) {
            int before = 0;
            for (int unit = 1; unit <= made; unit++) {
                if ((family & 1L << firstLotOf[unit]) != 0) {
                    if (before == i) {
                        return unit;
                    }
                    before++;
                }
            }
            return NONE;
        }
    }

    /** The history of all lots in one list, because the room for it is one for all of them. */
    private static final class Rows {
        final int[] lotOf;
        final int[] kinds;
        final int[] numbers;
        int written;

        Rows() {
            lotOf = new int[MOST_ROWS];
            kinds = new int[MOST_ROWS];
            numbers = new int[MOST_ROWS];
            written = 0;
        }

        boolean haveRoomFor(int more) {
            return written + more <= MOST_ROWS;
        }

        void write(int lot, int kind, int number) {
            lotOf[written] = lot;
            kinds[written] = kind;
            numbers[written] = number;
            written++;
        }

        int find(int lot, int i) {
            int before = 0;
            for (int row = 0; row < written; row++) {
                if (lotOf[row] == lot) {
                    if (before == i) {
                        return row;
                    }
                    before++;
                }
            }
            return NONE;
        }
    }

    /** The years 2000 to 2099, written 0 to 99; months and the days in them count from 1. */
    private static final class Calendar {
        private static final int MONTHS = 12;
        private static final int FEBRUARY = 2;
        private static final int LAST_YEAR = 99;
        private static final int[] DAYS_BEFORE_MONTH = {0, 31, 59, 90, 120, 151, 181, 212, 243, 273, 304, 334, 365};

        static int fromYearDay(int year, int yearDay) {
            if (yearDay < 1 || yearDay > daysBefore(year, MONTHS + 1)) {
                return NONE;
            }
            return startOfYear(year) + yearDay - 1;
        }

        static int fromMonthDay(int year, int month, int monthDay) {
            if (month < 1 || month > MONTHS || monthDay < 1) {
                return NONE;
            }
            int yearDay = daysBefore(year, month) + monthDay;
            if (yearDay > daysBefore(year, month + 1)) {
                return NONE;
            }
            return fromYearDay(year, yearDay);
        }

        // The years before this one that 4 divides each gave a day more; year 0 is one of them.
        static int startOfYear(int year) {
            return year * 365 + (year + 3) / 4;
        }

        // Month 13 stands for the end of the year.
        static int daysBefore(int year, int month) {
            int leapDay = year % 4 == 0 && month > FEBRUARY ? 1 : 0;
            return DAYS_BEFORE_MONTH[month - 1] + leapDay;
        }

        static int yearOf(int dayNumber) {
            for (int year = LAST_YEAR; year > 0; year--) {
                if (startOfYear(year) <= dayNumber) {
                    return year;
                }
            }
            return 0;
        }

        static int monthOf(int year, int yearDay) {
            for (int month = MONTHS; month > 1; month--) {
                if (daysBefore(year, month) < yearDay) {
                    return month;
                }
            }
            return 1;
        }
    }
}
