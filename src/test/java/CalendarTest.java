import java.time.LocalDate;
import java.util.HashMap;
import java.util.Map;

/** Promises 21 (day) and 22 (date), every date of each writing. */
public final class CalendarTest {
    private static final int DAYS = 36525;

    public static void main(String[] args) {
        for (int format = 0; format <= 2; format++) {
            everyDate(format);
        }
        wrongNumbers();
        Check.end();
    }

    // A new object now and then, because one object is good for 512 calls.
    private static void everyDate(int format) {
        Map<Integer, Integer> dayOf = new HashMap<>();
        LotRules x = new LotRules();
        for (int day = 0; day < DAYS; day++) {
            x = day % 500 == 0 ? new LotRules() : x;
            int date = written(format, day);
            dayOf.put(date, day);
            Check.same("date(" + format + ", " + day + ")", x.date(format, day), date);
        }
        Check.same("dates of format " + format, dayOf.size(), DAYS);
        int most = format == 2 ? 99999 : 999999;
        for (int date = 0; date <= most; date++) {
            x = date % 500 == 0 ? new LotRules() : x;
            Check.same("day(" + format + ", " + date + ")", x.day(format, date), dayOf.getOrDefault(date, -1));
        }
    }

    private static int written(int format, int day) {
        LocalDate date = LocalDate.of(2000, 1, 1).plusDays(day);
        int year = date.getYear() - 2000;
        int month = date.getMonthValue();
        switch (format) {
            case 0:
                return year * 10000 + month * 100 + date.getDayOfMonth();
            case 1:
                return date.getDayOfMonth() * 10000 + month * 100 + year;
            default:
                return year * 1000 + date.getDayOfYear();
        }
    }

    private static void wrongNumbers() {
        LotRules x = new LotRules();
        for (int format : new int[] {-1, 3, Integer.MIN_VALUE, Integer.MAX_VALUE}) {
            Check.refused(x, "day: format " + format, Check.ARGUMENT, () -> x.day(format, 101));
            Check.refused(x, "date: format " + format, Check.ARGUMENT, () -> x.date(format, 0));
        }
        for (int format = 0; format <= 2; format++) {
            int writing = format;
            int[] wrongDates = {-1, Integer.MIN_VALUE, Integer.MAX_VALUE, format == 2 ? 100000 : 1000000};
            for (int date : wrongDates) {
                Check.refused(x, "day(" + writing + ", " + date + ")", Check.ARGUMENT, () -> x.day(writing, date));
            }
            for (int day : new int[] {-1, DAYS, Integer.MIN_VALUE, Integer.MAX_VALUE}) {
                Check.refused(x, "date(" + writing + ", " + day + ")", Check.ARGUMENT, () -> x.date(writing, day));
            }
        }
    }
}
