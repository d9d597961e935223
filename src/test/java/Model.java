import java.time.DateTimeException;
import java.time.LocalDate;
import java.time.temporal.ChronoUnit;
import java.util.ArrayList;
import java.util.Comparator;
import java.util.HashSet;
import java.util.List;
import java.util.NoSuchElementException;
import java.util.Set;
import java.util.TreeSet;

/** The document once more, with the Java library and without a thought for room or speed, to compare LotRules with. */
final class Model {
    private static final LocalDate DAY_0 = LocalDate.of(2000, 1, 1);
    private static final int DAYS = (int) ChronoUnit.DAYS.between(DAY_0, LocalDate.of(2100, 1, 1));

    private static final class Lot {
        int number;
        int good;
        int owner;
        int until;
        int arrived;
        Lot joinedInto;
        boolean quarantine;
        final Set<Integer> reasons = new TreeSet<>();
        final List<Lot> splitOrJoined = new ArrayList<>();
        final List<int[]> history = new ArrayList<>();

        boolean open() {
            return joinedInto == null;
        }

        boolean mayBeTaken() {
            return open() && reasons.isEmpty() && !quarantine;
        }
    }

    private static final class Unit {
        int number;
        Lot lot;
        final Set<Lot> everOf = new HashSet<>();
        int bin = -1;
        int customer = -1;
        int day = -1;
    }

    private final List<Lot> lots = new ArrayList<>();
    private final List<Unit> units = new ArrayList<>();
    private final int[] rotation = new int[8];
    private final int[] mixture = new int[8];
    private final int[] wants = {1, 1, 1, 1, 1, 1, 1, 1};
    private final Set<String> rights = new HashSet<>();
    private final int[] mixed = {0, 0};

    int lot(int good, int owner, int until, int arrived) {
        number(good, 0, 9);
        number(owner, 0, 7);
        number(until, 0, DAYS - 1);
        number(arrived, 0, DAYS - 1);
        if (until < arrived) {
            return 0;
        }
        roomForLots();
        roomForRows(1);
        Lot lot = newLot(good, owner, until, arrived);
        lot.history.add(new int[] {1, 0});
        return lot.number;
    }

    void rule(int owner, int kind, int days) {
        number(owner, 0, 7);
        number(kind, 0, 1);
        number(days, 0, kind == 0 ? 2 : 1000);
        (kind == 0 ? rotation : mixture)[owner] = days;
    }

    void wants(int customer, int days) {
        number(customer, 0, 7);
        number(days, 1, 1000);
        wants[customer] = days;
    }

    void right(int person, int reason, boolean may) {
        number(person, 0, 7);
        number(reason, 1, 9);
        if (may) {
            rights.add(person + " " + reason);
        } else {
            rights.remove(person + " " + reason);
        }
    }

    int block(int lot, int reason) {
        Lot of = lotOf(lot);
        number(reason, 1, 9);
        state(of.open());
        state(!of.reasons.contains(reason));
        roomForRows(1);
        of.reasons.add(reason);
        of.history.add(new int[] {6, reason});
        return of.reasons.size();
    }

    int release(int lot, int person) {
        Lot of = lotOf(lot);
        number(person, 0, 7);
        state(of.open());
        Set<Integer> released = new TreeSet<>(of.reasons);
        released.removeIf(reason -> !rights.contains(person + " " + reason));
        state(!released.isEmpty());
        roomForRows(1);
        of.reasons.removeAll(released);
        of.history.add(new int[] {7, person});
        return released.size();
    }

    void quarantine(int lot, boolean on) {
        Lot of = lotOf(lot);
        state(of.open());
        state(of.quarantine != on);
        roomForRows(1);
        of.quarantine = on;
        of.history.add(new int[] {on ? 8 : 9, 0});
    }

    int order(int good, int owner, int i) {
        number(good, 0, 9);
        number(owner, 0, 7);
        number(i, 0, Integer.MAX_VALUE);
        List<Lot> taken = new ArrayList<>(lots);
        taken.removeIf(lot -> lot.good != good || lot.owner != owner || !lot.mayBeTaken());
        Comparator<Lot> upward = Comparator.comparingInt(lot -> lot.arrived);
        if (rotation[owner] == 0) {
            taken.sort(Comparator.<Lot>comparingInt(lot -> lot.until).thenComparing(upward)
                    .thenComparingInt(lot -> lot.number));
        } else if (rotation[owner] == 1) {
            taken.sort(upward.thenComparingInt(lot -> lot.number));
        } else {
            taken.sort(upward.reversed().thenComparingInt(lot -> -lot.number));
        }
        return i < taken.size() ? taken.get(i).number : -1;
    }

    boolean allowed(int lot, int customer, int day) {
        Lot of = lotOf(lot);
        number(customer, 0, 7);
        number(day, 0, DAYS - 1);
        return isAllowed(of, customer, day);
    }

    int split(int lot) {
        Lot of = lotOf(lot);
        state(of.open());
        roomForLots();
        roomForRows(2);
        Lot part = newLot(of.good, of.owner, of.until, of.arrived);
        part.reasons.addAll(of.reasons);
        part.quarantine = of.quarantine;
        part.history.add(new int[] {2, of.number});
        of.history.add(new int[] {3, part.number});
        of.splitOrJoined.add(part);
        return part.number;
    }

    void join(int lot, int other) {
        Lot one = lotOf(lot);
        Lot another = lotOf(other);
        state(one.open());
        state(another.open());
        state(one != another);
        state(one.good == another.good);
        state(one.owner == another.owner);
        state(one.until == another.until);
        state(one.reasons.equals(another.reasons));
        state(one.quarantine == another.quarantine);
        roomForRows(2);
        another.joinedInto = one;
        one.splitOrJoined.add(another);
        one.history.add(new int[] {4, another.number});
        another.history.add(new int[] {5, one.number});
        for (Unit unit : units) {
            if (unit.lot == another) {
                unit.lot = one;
                unit.everOf.add(one);
            }
        }
    }

    int unit(int lot) {
        Lot of = lotOf(lot);
        state(of.open());
        room(units.size() < 120);
        roomForRows(1);
        Unit unit = new Unit();
        units.add(unit);
        unit.number = units.size();
        unit.lot = of;
        unit.everOf.add(of);
        of.history.add(new int[] {10, unit.number});
        return unit.number;
    }

    void put(int unit, int bin) {
        Unit it = unitOf(unit);
        number(bin, 0, 19);
        state(it.customer == -1);
        state(it.bin != bin);
        for (Unit lying : units) {
            boolean ofOne = lying.lot.good == it.lot.good && lying.lot.owner == it.lot.owner;
            int apart = Math.max(lying.lot.until, it.lot.until) - Math.min(lying.lot.until, it.lot.until);
            if (lying.bin == bin && ofOne && apart > mixture[it.lot.owner]) {
                mixed[0] = it.lot.number;
                mixed[1] = lying.lot.number;
                state(false);
            }
        }
        it.bin = bin;
    }

    int mixed(int side) {
        number(side, 0, 1);
        return mixed[side];
    }

    void ship(int unit, int customer, int day) {
        Unit it = unitOf(unit);
        number(customer, 0, 7);
        number(day, 0, DAYS - 1);
        state(it.customer == -1);
        state(isAllowed(it.lot, customer, day));
        roomForRows(1);
        it.bin = -1;
        it.customer = customer;
        it.day = day;
        it.lot.history.add(new int[] {11, it.number});
    }

    int recall(int lot, int i) {
        Lot of = lotOf(lot);
        number(i, 0, Integer.MAX_VALUE);
        Set<Lot> family = new HashSet<>();
        gather(of, family);
        List<Unit> recalled = new ArrayList<>(units);
        recalled.removeIf(unit -> unit.everOf.stream().noneMatch(family::contains));
        return i < recalled.size() ? recalled.get(i).number : -1;
    }

    int where(int unit, int what) {
        Unit it = unitOf(unit);
        number(what, 0, 3);
        return new int[] {it.lot.number, it.bin, it.customer, it.day}[what];
    }

    int history(int lot, int i, int what) {
        Lot of = lotOf(lot);
        if (i < 0 || i >= of.history.size()) {
            throw new NoSuchElementException();
        }
        number(what, 0, 1);
        return of.history.get(i)[what];
    }

    int told(int lot, int what) {
        Lot of = lotOf(lot);
        number(what, 0, 7);
        int bits = of.reasons.stream().mapToInt(reason -> 1 << reason).sum();
        int left = (int) units.stream().filter(unit -> unit.lot == of && unit.customer == -1).count();
        return new int[] {of.good, of.owner, of.until, of.arrived, of.open() ? 1 : 0, bits, of.quarantine ? 1 : 0,
            left}[what];
    }

    int day(int format, int date) {
        number(format, 0, 2);
        number(date, 0, format == 2 ? 99999 : 999999);
        try {
            LocalDate when;
            if (format == 2) {
                when = LocalDate.ofYearDay(2000 + date / 1000, date % 1000);
            } else if (format == 1) {
                when = LocalDate.of(2000 + date % 100, date / 100 % 100, date / 10000);
            } else {
                when = LocalDate.of(2000 + date / 10000, date / 100 % 100, date % 100);
            }
            return (int) ChronoUnit.DAYS.between(DAY_0, when);
        } catch (DateTimeException e) {
            return -1;
        }
    }

    int date(int format, int day) {
        number(format, 0, 2);
        number(day, 0, DAYS - 1);
        LocalDate when = DAY_0.plusDays(day);
        int year = when.getYear() - 2000;
        if (format == 2) {
            return year * 1000 + when.getDayOfYear();
        }
        int month = when.getMonthValue() * 100;
        return format == 1 ? when.getDayOfMonth() * 10000 + month + year : year * 10000 + month + when.getDayOfMonth();
    }

    int count(int what) {
        switch (what) {
            case 0:
                return lots.size();
            case 1:
                return units.size();
            case 2:
                return rows();
            case 3:
                return (int) units.stream().filter(unit -> unit.customer != -1).count();
            default:
                return -1;
        }
    }

    private boolean isAllowed(Lot lot, int customer, int day) {
        if (!lot.mayBeTaken() || day < lot.arrived || day > lot.until) {
            return false;
        }
        int daysLeft = 0;
        for (int left = day; left <= lot.until; left++) {
            daysLeft++;
        }
        return daysLeft >= wants[customer];
    }

    private static void gather(Lot lot, Set<Lot> family) {
        if (family.add(lot)) {
            lot.splitOrJoined.forEach(kin -> gather(kin, family));
        }
    }

    private Lot newLot(int good, int owner, int until, int arrived) {
        Lot lot = new Lot();
        lots.add(lot);
        lot.number = lots.size();
        lot.good = good;
        lot.owner = owner;
        lot.until = until;
        lot.arrived = arrived;
        return lot;
    }

    private int rows() {
        return lots.stream().mapToInt(lot -> lot.history.size()).sum();
    }

    private Lot lotOf(int number) {
        if (number < 1 || number > lots.size()) {
            throw new NoSuchElementException();
        }
        return lots.get(number - 1);
    }

    private Unit unitOf(int number) {
        if (number < 1 || number > units.size()) {
            throw new NoSuchElementException();
        }
        return units.get(number - 1);
    }

    private static void number(int number, int least, int most) {
        if (number < least || number > most) {
            throw new IllegalArgumentException();
        }
    }

    private static void state(boolean holds) {
        if (!holds) {
            throw new IllegalStateException();
        }
    }

    private static void room(boolean thereIs) {
        if (!thereIs) {
            throw new UnsupportedOperationException();
        }
    }

    private void roomForLots() {
        room(lots.size() < 40);
    }

    private void roomForRows(int more) {
        room(rows() + more <= 400);
    }
}
