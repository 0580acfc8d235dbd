import java.time.LocalDate;
import java.time.temporal.ChronoUnit;

/** Promises 7, 11 and 12: calendar, date, serial. */
public final class CalendarTest {
    private static final int LAST_1900 = 2958465;
    private static final int LAST_1904 = 2957003;

    public static void main(String[] args) {
        calendarChangesFromNowOn();
        everyDay(false);
        everyDay(true);
        theDayThatNeverWas();
        wrongSerials();
        wrongDays();
        Check.end();
    }

    private static void calendarChangesFromNowOn() {
        CellFormatter x = Check.compiled("yyyy-mm-dd ddd");
        Check.due("1900 at first", Check.shown(x, 1000000), "1900-01-01 Sun");
        x.calendar(true);
        Check.due("what was shown stays", Check.text(x), "1900-01-01 Sun");
        Check.due("1904", Check.shown(x, 1000000), "1904-01-02 Sat");
        Check.due("1904: 0", Check.shown(x, 0), "1904-01-01 Fri");
        x.calendar(true);
        Check.due("1904 again", x.date(0, 0), 1904);
        x.calendar(false);
        Check.due("1900 again", x.date(0, 0), CellFormatter.BAD);
        Check.due("1900: 0", Check.shown(x, 0), null);
        Check.due("the code stays compiled", x.sections(), 1);
    }

    /** Compares every day of a calendar with the Java library, a new object for each 100 days. */
    private static void everyDay(boolean is1904) {
        LocalDate start = LocalDate.of(is1904 ? 1904 : 1900, 1, 1);
        LocalDate last = LocalDate.of(9999, 12, 31);
        int count = (int) ChronoUnit.DAYS.between(start, last) + 1;
        CellFormatter x = new CellFormatter();
        for (int i = 0; i < count; i++) {
            if (i % 100 == 0) {
                x = new CellFormatter();
                x.calendar(is1904);
            }
            LocalDate day = start.plusDays(i);
            int serial = is1904 ? i : i < 59 ? i + 1 : i + 2;
            int weekday = is1904 ? day.getDayOfWeek().getValue() % 7 + 1 : (serial + 6) % 7 + 1;
            boolean right = x.date(serial, 0) == day.getYear() && x.date(serial, 1) == day.getMonthValue()
                && x.date(serial, 2) == day.getDayOfMonth() && x.date(serial, 3) == weekday
                && x.serial(day.getYear(), day.getMonthValue(), day.getDayOfMonth()) == serial;
            if (!right) {
                Check.due("day " + day + " with serial " + serial, false, true);
                return;
            }
        }
        Check.due("the last day", is1904 ? count - 1 : count + 1, is1904 ? LAST_1904 : LAST_1900);
    }

    private static void theDayThatNeverWas() {
        CellFormatter x = new CellFormatter();
        Check.due("date(60, 0)", x.date(60, 0), 1900);
        Check.due("date(60, 1)", x.date(60, 1), 2);
        Check.due("date(60, 2)", x.date(60, 2), 29);
        Check.due("date(60, 3)", x.date(60, 3), 4);
        Check.due("date(1, 3)", x.date(1, 3), 1);
        Check.due("date(7, 3)", x.date(7, 3), 7);
        Check.due("serial(1900, 2, 28)", x.serial(1900, 2, 28), 59);
        Check.due("serial(1900, 2, 29)", x.serial(1900, 2, 29), 60);
        Check.due("serial(1900, 3, 1)", x.serial(1900, 3, 1), 61);
        Check.due("serial(1900, 2, 30)", x.serial(1900, 2, 30), CellFormatter.BAD);
        x.calendar(true);
        Check.due("1904: serial(1900, 2, 29)", x.serial(1900, 2, 29), CellFormatter.BAD);
        Check.due("1904: date(60, 2)", x.date(60, 2), 1);
        Check.due("1904: date(0, 3)", x.date(0, 3), 6);
    }

    private static void wrongSerials() {
        int[] parts = {0, 1, 2, 3};
        for (int part : parts) {
            CellFormatter x = new CellFormatter();
            Check.due("1900: 0", x.date(0, part), CellFormatter.BAD);
            Check.due("1900: -1", x.date(-1, part), CellFormatter.BAD);
            Check.due("1900: behind the last", x.date(LAST_1900 + 1, part), CellFormatter.BAD);
            Check.due("1900: least", x.date(Integer.MIN_VALUE, part), CellFormatter.BAD);
            Check.due("1900: greatest", x.date(Integer.MAX_VALUE, part), CellFormatter.BAD);
            x.calendar(true);
            Check.due("1904: -1", x.date(-1, part), CellFormatter.BAD);
            Check.due("1904: behind the last", x.date(LAST_1904 + 1, part), CellFormatter.BAD);
            Check.due("1904: least", x.date(Integer.MIN_VALUE, part), CellFormatter.BAD);
            Check.due("1904: greatest", x.date(Integer.MAX_VALUE, part), CellFormatter.BAD);
        }
        CellFormatter x = new CellFormatter();
        int[] wrongParts = {-1, 4, Integer.MIN_VALUE, Integer.MAX_VALUE};
        for (int part : wrongParts) {
            Check.due("part " + part, x.date(1, part), CellFormatter.BAD);
        }
    }

    private static void wrongDays() {
        int[][] wrong = {
            {1899, 12, 31}, {10000, 1, 1}, {2000, 0, 1}, {2000, 13, 1}, {2000, 1, 0}, {2000, 1, 32},
            {2001, 2, 29}, {2000, 2, 30}, {2100, 2, 29}, {2000, 4, 31}, {2000, -1, 1}, {2000, 1, -1}, {0, 0, 0},
            {1904, 2, 30}, {Integer.MIN_VALUE, 1, 1}, {Integer.MAX_VALUE, 1, 1}, {2000, Integer.MIN_VALUE, 1},
            {2000, Integer.MAX_VALUE, 1}, {2000, 1, Integer.MIN_VALUE}, {2000, 1, Integer.MAX_VALUE}
        };
        CellFormatter x = new CellFormatter();
        for (int[] day : wrong) {
            String name = day[0] + " " + day[1] + " " + day[2];
            x.calendar(false);
            Check.due("1900: " + name, x.serial(day[0], day[1], day[2]), CellFormatter.BAD);
            x.calendar(true);
            Check.due("1904: " + name, x.serial(day[0], day[1], day[2]), CellFormatter.BAD);
        }
        for (int month = 1; month <= 12; month++) {
            int length = LocalDate.of(2025, month, 1).lengthOfMonth();
            Check.due("behind month " + month, x.serial(2025, month, length + 1), CellFormatter.BAD);
        }
        Check.due("1904: 31 December 1903", x.serial(1903, 12, 31), CellFormatter.BAD);
        Check.due("1904: 1 January 1904", x.serial(1904, 1, 1), 0);
        Check.due("1904: 29 February 1904", x.serial(1904, 2, 29), 59);
        Check.due("1904: the last", x.serial(9999, 12, 31), LAST_1904);
        x.calendar(false);
        Check.due("1900: the first", x.serial(1900, 1, 1), 1);
        Check.due("1900: the last", x.serial(9999, 12, 31), LAST_1900);
        Check.due("1900: 29 February 2000", x.serial(2000, 2, 29), 36585);
    }
}
