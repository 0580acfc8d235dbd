import java.time.LocalDate;
import java.time.temporal.ChronoUnit;

/** The sentences of the terms on the two calendars; a test for each. Promises 7, 8, 11 and 12. */
public final class CalendarTest {
    private static final int LAST_1900 = 2958465;
    private static final int LAST_1904 = 2957003;

    public static void main(String[] args) {
        firstDaysOf1900();
        theDayThatNeverWas();
        weekdaysOf1900();
        everyDay(false);
        firstDaysOf1904();
        everyDay(true);
        lastDays();
        noDaysBeyond();
        Check.end();
    }

    private static void isDay(CellFormatter x, int serial, int year, int month, int day) {
        Check.due("year of " + serial, x.date(serial, 0), year);
        Check.due("month of " + serial, x.date(serial, 1), month);
        Check.due("day of " + serial, x.date(serial, 2), day);
        Check.due("serial of " + year + " " + month + " " + day, x.serial(year, month, day), serial);
        String text = String.format("%04d/%02d/%02d", year, month, day);
        Check.due("text of " + serial, Check.shown(x, serial * 1000000L), text);
    }

    private static CellFormatter showingDays(boolean is1904) {
        CellFormatter x = Check.compiled("yyyy/mm/dd");
        x.calendar(is1904);
        return x;
    }

    private static void firstDaysOf1900() {
        Check.sentence("8, 11 and 12", "1900: serials 1 .. 59 are the days from 1 January to 28 February 1900, "
            + "60 is 29 February 1900 (which never was), 61 is 1 March 1900, and so on");
        CellFormatter x = showingDays(false);
        isDay(x, 1, 1900, 1, 1);
        isDay(x, 31, 1900, 1, 31);
        isDay(x, 32, 1900, 2, 1);
        isDay(x, 59, 1900, 2, 28);
        isDay(x, 60, 1900, 2, 29);
        isDay(x, 61, 1900, 3, 1);
        isDay(x, 366, 1900, 12, 31);
        isDay(x, 367, 1901, 1, 1);
        isDay(x, 1520, 1904, 2, 28);
        isDay(x, 1521, 1904, 2, 29);
        isDay(x, 1522, 1904, 3, 1);
        x = showingDays(false);
        isDay(x, 36585, 2000, 2, 29);
        isDay(x, 36586, 2000, 3, 1);
        isDay(x, 73109, 2100, 2, 28);
        isDay(x, 73110, 2100, 3, 1);
        Check.due("before the first", x.date(0, 0), CellFormatter.BAD);
    }

    /** Asks for each part first on a new object, and then behind a day with other parts. */
    private static void theDayThatNeverWas() {
        Check.sentence("8, 11 and 12", "60 is 29 February 1900 (which never was)");
        int[] want = {1900, 2, 29, 4};
        for (int part = 0; part < 4; part++) {
            CellFormatter x = new CellFormatter();
            Check.due("date(60, " + part + ")", x.date(60, part), want[part]);
            x.date(LAST_1900, part);
            Check.due("date(60, " + part + ") behind the last day", x.date(60, part), want[part]);
        }
        Check.shows("yyyy yy m mm mmm d dd ddd", "60", "1900 00 2 02 Feb 29 29 Wed");
        CellFormatter x = showingDays(false);
        isDay(x, LAST_1900, 9999, 12, 31);
        isDay(x, 60, 1900, 2, 29);
        x.calendar(true);
        isDay(x, 60, 1904, 3, 1);
    }

    private static void weekdaysOf1900() {
        Check.sentence("8 and 11", "the weekday of serial n, 1 Sunday to 7 Saturday, "
            + "is n - 7 k for the whole k that makes it 1 .. 7.");
        CellFormatter x = new CellFormatter();
        int[] serials = {1, 2, 6, 7, 8, 14, 15, 59, 60, 61, 63, 64, LAST_1900};
        int[] weekdays = {1, 2, 6, 7, 1, 7, 1, 3, 4, 5, 7, 1, 6};
        for (int i = 0; i < serials.length; i++) {
            Check.due("weekday of " + serials[i], x.date(serials[i], 3), weekdays[i]);
        }
        Check.shows("ddd", "59", "Tue");
        Check.shows("ddd", "60", "Wed");
        Check.shows("ddd", "61", "Thu");
    }

    /** Compares every day of a calendar with the Java library, a new object for each 100 days. */
    private static void everyDay(boolean is1904) {
        Check.sentence("11 and 12", "SERIALS are numbers of days. THE CALENDAR is one of two.");
        LocalDate start = LocalDate.of(is1904 ? 1904 : 1900, 1, 1);
        LocalDate last = LocalDate.of(9999, 12, 31);
        int count = (int) ChronoUnit.DAYS.between(start, last) + 1;
        CellFormatter x = new CellFormatter();
        for (int i = 0; i < count; i++) {
            if (i % 100 == 0) {
                x = new CellFormatter();
                x.calendar(is1904);
            }
            LocalDate day = start.plusDays(i);
            int serial = is1904 ? i : i < 59 ? i + 1 : i + 2;
            int weekday = is1904 ? day.getDayOfWeek().getValue() % 7 + 1 : (serial + 6) % 7 + 1;
            boolean right = x.date(serial, 0) == day.getYear() && x.date(serial, 1) == day.getMonthValue()
                && x.date(serial, 2) == day.getDayOfMonth() && x.date(serial, 3) == weekday
                && x.serial(day.getYear(), day.getMonthValue(), day.getDayOfMonth()) == serial;
            if (!right) {
                Check.due("day " + day + " with serial " + serial, false, true);
                return;
            }
        }
        Check.due("the last day", is1904 ? count - 1 : count + 1, is1904 ? LAST_1904 : LAST_1900);
    }

    private static void firstDaysOf1904() {
        Check.sentence("8, 11 and 12", "1904: serial 0 is 1 January 1904, a Friday (6), and so on.");
        CellFormatter x = showingDays(true);
        isDay(x, 0, 1904, 1, 1);
        isDay(x, 1, 1904, 1, 2);
        isDay(x, 30, 1904, 1, 31);
        isDay(x, 31, 1904, 2, 1);
        isDay(x, 58, 1904, 2, 28);
        isDay(x, 59, 1904, 2, 29);
        isDay(x, 60, 1904, 3, 1);
        isDay(x, 61, 1904, 3, 2);
        isDay(x, 365, 1904, 12, 31);
        isDay(x, 366, 1905, 1, 1);
        isDay(x, 35123, 2000, 2, 29);
        int[] weekdays = {6, 7, 1, 2, 3, 4, 5, 6};
        for (int serial = 0; serial < weekdays.length; serial++) {
            Check.due("weekday of " + serial, x.date(serial, 3), weekdays[serial]);
        }
        Check.shows1904("ddd", "0", "Fri");
        Check.shows1904("ddd", "1", "Sat");
        Check.shows1904("ddd", "2", "Sun");
        Check.due("before the first", x.date(-1, 0), CellFormatter.BAD);
    }

    private static void lastDays() {
        Check.sentence("8, 11 and 12", "Both go up to 31 December 9999.");
        isDay(showingDays(false), LAST_1900, 9999, 12, 31);
        isDay(showingDays(true), LAST_1904, 9999, 12, 31);
        Check.shows("ddd", "" + LAST_1900, "Fri");
        Check.shows1904("ddd", "" + LAST_1904, "Fri");
    }

    private static void noDaysBeyond() {
        Check.sentence("8, 11 and 12", "Both go up to 31 December 9999.");
        CellFormatter x = showingDays(false);
        for (int part = 0; part < 4; part++) {
            x.calendar(false);
            Check.due("1900: behind the last, part " + part, x.date(LAST_1900 + 1, part), CellFormatter.BAD);
            x.calendar(true);
            Check.due("1904: behind the last, part " + part, x.date(LAST_1904 + 1, part), CellFormatter.BAD);
        }
        Check.due("1904: 1 January 10000", x.serial(10000, 1, 1), CellFormatter.BAD);
        x.calendar(false);
        Check.due("1900: 1 January 10000", x.serial(10000, 1, 1), CellFormatter.BAD);
        Check.notShown("yyyy", "" + (LAST_1900 + 1));
        Check.notShown1904("yyyy", "" + (LAST_1904 + 1));
    }
}
