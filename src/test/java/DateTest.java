import java.math.BigDecimal;

/** The sentences of the terms on what DATE sections show; a test for each. Promise 8. */
public final class DateTest {
    private static final int LAST_1900 = 2958465;
    private static final int LAST_1904 = 2957003;
    private static final String[] NAMING =
        {"yy", "yyyy", "m", "mm", "mmm", "d", "dd", "ddd", "h d", "m h", "h:mm mmm", "s:m", "AM/PM yy"};
    private static final String[] NOT_NAMING =
        {"h", "hh", "s", "ss", "AM/PM", "[h]", "[m]", "[s]", "h:m", "h:mm", "m:s", "mm:ss", "[h]:mm:ss", "mm[s]"};

    public static void main(String[] args) {
        negativeValues();
        roundedToSeconds();
        roundingIsCarried();
        everySecond();
        noSerialOfTheCalendar();
        sectionsThatNameNoDay();
        years();
        months();
        monthNames();
        days();
        weekdayNames();
        hours();
        hoursWithMeridiem();
        seconds();
        meridiem();
        elapsed();
        minuteBehindHour();
        minuteBeforeSecond();
        oneAndTwoLetters();
        literals();
        Check.end();
    }

    /** A moment as a number of days. */
    private static String at(int day, int hour, int minute, int second) {
        long units = Math.round((hour * 3600 + minute * 60 + second) * 1000000L / 86400.0);
        return BigDecimal.valueOf(day * 1000000L + units, 6).toPlainString();
    }

    private static void negativeValues() {
        Check.sentence("8", "A DATE section shows nothing of negative values (NOT SHOWN).");
        for (String code : new String[] {"yy", "d", "h", "[h]", "[s]", "AM/PM"}) {
            Check.notShown(code, "-0.000001");
            Check.notShown(code, "-1");
            Check.notShown(code, "-1000000000");
            Check.notShown1904(code, "-0.000001");
        }
        Check.notShown("h;h", "-1");
        Check.notShown("0;h;0", "-0.000001");
        Check.notShown("[<0]h;0", "-1");
        Check.shows("h", "0", "0");
        Check.shows1904("d", "0", "1");
    }

    private static void roundedToSeconds() {
        Check.sentence("8", "The value is rounded to seconds (a day has 86400; a half goes up): "
            + "days and seconds of the day.");
        // A unit is 54/625 of a second, so no value is a whole number of seconds and a half: that would ask for
        // 108 units = 625 (2 k + 1), even and odd. The half is met from both sides.
        Check.shows("[s]", "0", "0");
        Check.shows("[s]", "0.000005", "0");
        Check.shows("[s]", "0.000006", "1");
        Check.shows("[s]", "0.000017", "1");
        Check.shows("[s]", "0.000018", "2");
        Check.shows("[s]", "0.999994", "86399");
        Check.shows("[s]", "0.999995", "86400");
        Check.shows("[s]", "1", "86400");
        Check.shows("[s]", "1.000005", "86400");
        Check.shows("[s]", "1.000006", "86401");
    }

    private static void roundingIsCarried() {
        Check.sentence("8", "The value is rounded to seconds (a day has 86400; a half goes up): "
            + "days and seconds of the day.");
        Check.shows("h:mm:ss", "0.000688", "0:00:59");
        Check.shows("h:mm:ss", "0.000689", "0:01:00");
        Check.shows("h:mm:ss", "0.041660", "0:59:59");
        Check.shows("h:mm:ss", "0.041661", "1:00:00");
        Check.shows("h AM/PM", "0.499994", "11 AM");
        Check.shows("h AM/PM", "0.499995", "12 PM");
        Check.shows("h:mm:ss", "0.999994", "23:59:59");
        Check.shows("h:mm:ss", "0.999995", "0:00:00");
        Check.shows("d h", "1.999994", "1 23");
        Check.shows("d h", "1.999995", "2 0");
        Check.shows("mmm d", "31.999995", "Feb 1");
        Check.shows("mmm d", "59.999995", "Feb 29");
        Check.shows("mmm d", "60.999995", "Mar 1");
        Check.shows("yyyy", "366.999994", "1900");
        Check.shows("yyyy", "366.999995", "1901");
        Check.notShown("d", "0.999994");
        Check.shows("d", "0.999995", "1");
        Check.shows("d", LAST_1900 + ".999994", "31");
        Check.notShown("d", LAST_1900 + ".999995");
        Check.shows("h", LAST_1900 + ".999994", "23");
        Check.notShown("h", LAST_1900 + ".999995");
        Check.shows1904("h", LAST_1904 + ".999994", "23");
        Check.notShown1904("h", LAST_1904 + ".999995");
    }

    /** Takes the last value before each second of a day and the first one of it. */
    private static void everySecond() {
        Check.sentence("8", "The value is rounded to seconds (a day has 86400; a half goes up): "
            + "days and seconds of the day.");
        CellFormatter x = Check.compiled("[s]");
        for (int second = 1; second <= 86400; second++) {
            if (second % 15 == 0) {
                x = Check.compiled("[s]");
            }
            long first = (second * 10000L - 5000 + 863) / 864;
            Check.due("before second " + second, Check.shown(x, first - 1), "" + (second - 1));
            Check.due("second " + second, Check.shown(x, first), "" + second);
        }
    }

    private static void noSerialOfTheCalendar() {
        Check.sentence("8", "When the day is no serial of the calendar, the value is not shown");
        for (String code : NAMING) {
            Check.notShown(code, "0");
            Check.notShown(code, "0.5");
            Check.due(code + " of the first", Check.compiled(code).show(1000000L) > 0, true);
            Check.due(code + " of the last", Check.compiled(code).show(LAST_1900 * 1000000L) > 0, true);
            Check.notShown(code, "" + (LAST_1900 + 1));
            Check.notShown(code, "1000000000");
            CellFormatter x = Check.compiled(code);
            x.calendar(true);
            Check.due("1904: " + code + " of the first", x.show(0) > 0, true);
            Check.due("1904: " + code + " of the last", x.show(LAST_1904 * 1000000L) > 0, true);
            Check.notShown1904(code, "" + (LAST_1904 + 1));
            Check.notShown1904(code, "1000000000");
        }
    }

    private static void sectionsThatNameNoDay() {
        Check.sentence("8", "but in a section without a year, month, day or weekday, "
            + "days from 0 up to the last serial are shown in both.");
        for (String code : NOT_NAMING) {
            CellFormatter x = Check.compiled(code);
            Check.due(code + " of 0", x.show(0) > 0, true);
            Check.due(code + " of the last", x.show(LAST_1900 * 1000000L) > 0, true);
            Check.notShown(code, "" + (LAST_1900 + 1));
            Check.notShown(code, "1000000000");
            x.calendar(true);
            Check.due("1904: " + code + " of 0", x.show(0) > 0, true);
            Check.due("1904: " + code + " of the last", x.show(LAST_1904 * 1000000L) > 0, true);
            Check.notShown1904(code, "" + (LAST_1904 + 1));
            Check.notShown1904(code, "1000000000");
        }
        Check.shows("h;d", "0.5", "12");
        Check.notShown("[<0]h;d", "0.5");
    }

    private static void years() {
        Check.sentence("8", "yyyy the year, yy its last two digits");
        Check.shows("yyyy yy", "1", "1900 00");
        Check.shows("yyyy yy", "36525", "1999 99");
        Check.shows("yyyy yy", "36526", "2000 00");
        Check.shows("yyyy yy", "40178", "2009 09");
        Check.shows("yyyy yy", "40179", "2010 10");
        Check.shows("yyyy yy", "" + LAST_1900, "9999 99");
        Check.shows1904("yyyy yy", "0", "1904 04");
    }

    private static void months() {
        Check.sentence("8", "m mm the month in one or two digits, or in two");
        Check.shows("m mm", "1", "1 01");
        Check.shows("m mm", "274", "9 09");
        Check.shows("m mm", "275", "10 10");
        Check.shows("m mm", "366", "12 12");
        Check.shows("m mm", "60", "2 02");
    }

    private static void monthNames() {
        Check.sentence("8", "mmm Jan Feb Mar Apr May Jun Jul Aug Sep Oct Nov Dec");
        String[] names = {"Jan", "Feb", "Mar", "Apr", "May", "Jun", "Jul", "Aug", "Sep", "Oct", "Nov", "Dec"};
        CellFormatter x = Check.compiled("mmm/m");
        for (int m = 1; m <= 12; m++) {
            long serial = x.serial(2026, m, 15);
            Check.due("month " + m, Check.shown(x, serial * 1000000), names[m - 1] + "/" + m);
        }
    }

    private static void days() {
        Check.sentence("8", "d dd the day of the month");
        Check.shows("d dd", "1", "1 01");
        Check.shows("d dd", "9", "9 09");
        Check.shows("d dd", "10", "10 10");
        Check.shows("d dd", "31", "31 31");
        Check.shows("d dd", "32", "1 01");
        Check.shows("d dd", "59", "28 28");
        Check.shows("d dd", "60", "29 29");
        Check.shows("d dd", "61", "1 01");
    }

    private static void weekdayNames() {
        Check.sentence("8", "ddd Sun Mon Tue Wed Thu Fri Sat");
        String[] names = {"Sun", "Mon", "Tue", "Wed", "Thu", "Fri", "Sat"};
        CellFormatter x = Check.compiled("ddd");
        for (int n = 1; n <= 15; n++) {
            Check.due("weekday of " + n, Check.shown(x, n * 1000000L), names[(n - 1) % 7]);
        }
        x.calendar(true);
        for (int n = 0; n <= 7; n++) {
            Check.due("1904: weekday of " + n, Check.shown(x, n * 1000000L), names[(n + 5) % 7]);
        }
    }

    private static void hours() {
        Check.sentence("8", "h hh the hour, from 0 to 23");
        for (int h = 0; h < 24; h++) {
            String two = h < 10 ? "0" + h : "" + h;
            Check.shows("h hh", at(1, h, 0, 0), h + " " + two);
            Check.shows("h hh", at(1, h, 59, 59), h + " " + two);
        }
        Check.shows("h;AM/PM", "0.75", "18");
        Check.shows("h \"AM/PM\"", "0.75", "18 AM/PM");
        CellFormatter x = Check.compiled("h AM/PM");
        Check.recompile(x, "h");
        Check.due("the meridiem of the older code is gone", Check.shown(x, 750000), "18");
    }

    private static void hoursWithMeridiem() {
        Check.sentence("8", "or with a meridiem in the section 12 1 2 .. 11 for 0 .. 11 and for 12 .. 23");
        String[] twelve = {"12", "1", "2", "3", "4", "5", "6", "7", "8", "9", "10", "11"};
        for (int h = 0; h < 24; h++) {
            String one = twelve[h % 12];
            String two = one.length() < 2 ? "0" + one : one;
            String half = h < 12 ? "AM" : "PM";
            Check.shows("h hh AM/PM", at(0, h, 0, 0), one + " " + two + " " + half);
            Check.shows("AM/PM h hh", at(1, h, 59, 59), half + " " + one + " " + two);
        }
        Check.shows("[h] h AM/PM", at(1, 18, 0, 0), "42 6 PM");
    }

    private static void seconds() {
        Check.sentence("8", "s ss the seconds of the minute");
        Check.shows("s ss", at(0, 0, 0, 0), "0 00");
        Check.shows("s ss", at(0, 0, 0, 9), "9 09");
        Check.shows("s ss", at(0, 0, 0, 10), "10 10");
        Check.shows("s ss", at(0, 0, 0, 59), "59 59");
        Check.shows("s ss", at(0, 0, 1, 0), "0 00");
        Check.shows("s ss", at(LAST_1900, 23, 59, 59), "59 59");
    }

    private static void meridiem() {
        Check.sentence("8", "the meridiem AM for hours below 12, else PM");
        Check.shows("AM/PM", at(0, 0, 0, 0), "AM");
        Check.shows("AM/PM", at(0, 11, 59, 59), "AM");
        Check.shows("AM/PM", at(0, 12, 0, 0), "PM");
        Check.shows("AM/PM", at(0, 23, 59, 59), "PM");
        Check.shows("AM/PM", at(1, 0, 0, 0), "AM");
    }

    private static void elapsed() {
        Check.sentence("8", "[h] [m] [s] the whole hours, minutes, seconds in days and seconds together.");
        Check.shows("[h] [m] [s]", "0", "0 0 0");
        Check.shows("[h] [m] [s]", at(0, 0, 0, 59), "0 0 59");
        Check.shows("[h] [m] [s]", at(0, 0, 1, 0), "0 1 60");
        Check.shows("[h] [m] [s]", at(0, 0, 59, 59), "0 59 3599");
        Check.shows("[h] [m] [s]", at(0, 1, 0, 0), "1 60 3600");
        Check.shows("[h] [m] [s]", at(0, 23, 59, 59), "23 1439 86399");
        Check.shows("[h] [m] [s]", "1", "24 1440 86400");
        Check.shows("[h] [m] [s]", at(LAST_1900, 23, 59, 59), "71003183 4260191039 255611462399");
        Check.shows1904("[h] [m] [s]", at(LAST_1904, 23, 59, 59), "70968095 4258085759 255485145599");
        Check.shows("[h]:mm:ss", at(2, 1, 2, 3), "49:02:03");
    }

    private static void minuteBehindHour() {
        Check.sentence("8", "m and mm are the minute of the hour instead when the field before them "
            + "(literals do not count) is h, hh or [h]");
        String moment = at(61, 2, 7, 47);
        Check.shows("h:m", moment, "2:7");
        Check.shows("hh:mm", moment, "02:07");
        Check.shows("[h] \"x\"\\y_z m", moment, "1466 xy  7");
        Check.shows("hm", moment, "27");
        Check.shows("h\"\"mm", moment, "207");
        Check.shows("m", moment, "3");
        Check.shows("m h", moment, "3 2");
        Check.shows("s m", moment, "47 3");
        Check.shows("h m m", moment, "2 7 3");
        Check.shows("h d m", moment, "2 1 3");
        Check.shows("h AM/PM m", moment, "2 AM 3");
        Check.shows("[m] m", moment, "87967 3");
        Check.shows("h mmm", moment, "2 Mar");
        Check.shows("h mm d mm", moment, "2 07 1 03");
        Check.shows("[<0]h;m", moment, "3");
        Check.shows("h [m]", moment, "2 87967");
        Check.shows("h:m", at(61, 2, 0, 0), "2:0");
        Check.shows("h:mm", at(61, 2, 59, 59), "2:59");
    }

    private static void minuteBeforeSecond() {
        Check.sentence("8", "or the field behind them is s, ss or [s].");
        String moment = at(61, 2, 7, 47);
        Check.shows("m:s", moment, "7:47");
        Check.shows("mm-ss", moment, "07-47");
        Check.shows("m\"x\"\\y_z[s]", moment, "7xy 5278067");
        Check.shows("ms", moment, "747");
        Check.shows("m m s", moment, "3 7 47");
        Check.shows("m d s", moment, "3 1 47");
        Check.shows("m AM/PM s", moment, "3 AM 47");
        Check.shows("m [m]", moment, "3 87967");
        Check.shows("mmm s", moment, "Mar 47");
        Check.shows("d m s", moment, "1 7 47");
        Check.shows("m;s", moment, "3");
        Check.shows("m:s", at(1, 0, 0, 1), "0:1");
    }

    private static void oneAndTwoLetters() {
        Check.sentence("8", "Single letters show a number without needless zeros, two letters at least two digits.");
        Check.shows("m/d h:m:s", at(1, 0, 0, 0), "1/1 0:0:0");
        Check.shows("mm/dd hh:mm:ss", at(1, 0, 0, 0), "01/01 00:00:00");
        Check.shows("m/d h:m:s", at(253, 9, 9, 9), "9/9 9:9:9");
        Check.shows("mm/dd hh:mm:ss", at(253, 9, 9, 9), "09/09 09:09:09");
        Check.shows("m/d h:m:s", at(284, 10, 10, 10), "10/10 10:10:10");
        Check.shows("mm/dd hh:mm:ss", at(284, 10, 10, 10), "10/10 10:10:10");
        Check.shows("yy", at(38000, 0, 0, 0), "04");
    }

    private static void literals() {
        Check.sentence("8", "\" any characters (perhaps none) but a \" and then \" : "
            + "LITERALS, these characters.");
        Check.shows("yyyy\"-\"mm\\-dd_x", "61", "1900-03-01 ");
        Check.shows("[>0]\"\"yyyy", "61", "1900");
        Check.shows("[s]".repeat(13), "" + LAST_1900, "255611376000".repeat(13));
    }
}
