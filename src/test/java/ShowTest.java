/** Promises 8, 9 and 10: show, charAt, section. */
public final class ShowTest {
    public static void main(String[] args) {
        wrongInputs();
        charAt();
        section();
        sectionsBySign();
        sectionsByCondition();
        plain();
        rounding();
        signs();
        integerPlaces();
        fractionPlaces();
        grouping();
        scalingAndPercent();
        exponents();
        exponentPlaces();
        dateFields();
        minutes();
        hours();
        elapsed();
        daysOutsideTheCalendar();
        secondsAreRounded();
        longestText();
        Check.end();
    }

    private static void wrongInputs() {
        CellFormatter x = new CellFormatter();
        Check.due("not compiled", x.show(0), CellFormatter.NOCODE);
        Check.due("not compiled, and too great", x.show(Long.MAX_VALUE), CellFormatter.NOCODE);
        long most = 1000000000000000L;
        long[] wrong = {most + 1, -most - 1, Long.MAX_VALUE, Long.MIN_VALUE};
        for (long units : wrong) {
            CellFormatter y = Check.compiled("0");
            Check.due("before", Check.shown(y, 5000000), "5");
            Check.due("show " + units, y.show(units), CellFormatter.BAD);
            Check.due("no characters", y.charAt(0), 0);
            Check.due("no section", y.section(), CellFormatter.BAD);
        }
        CellFormatter z = Check.compiled("[>2000]0;yy");
        Check.due("too small by a section that never shows it", z.show(-most - 1), CellFormatter.BAD);
        Check.due("greatest", Check.shown(Check.compiled("0"), most), "1000000000");
        Check.due("least", Check.shown(Check.compiled("0"), -most), "-1000000000");
    }

    private static void charAt() {
        CellFormatter x = Check.compiled("\"ab\"");
        Check.due("before show", x.charAt(0), 0);
        x.show(0);
        Check.due("charAt(0)", x.charAt(0), 'a');
        Check.due("charAt(1)", x.charAt(1), 'b');
        int[] none = {2, -1, 255, 256, Integer.MIN_VALUE, Integer.MAX_VALUE};
        for (int i : none) {
            Check.due("charAt(" + i + ")", x.charAt(i), 0);
        }
        x.erase();
        Check.feedAll(x, "0");
        x.compile();
        Check.due("stays when another code is compiled", Check.text(x), "ab");
        x.show(7000000);
        Check.due("the newer one", Check.text(x), "7");
        Check.due("not the rest of the older one", x.charAt(1), 0);
    }

    private static void section() {
        CellFormatter x = Check.compiled("0;yy;\"\"");
        Check.due("before show", x.section(), CellFormatter.BAD);
        x.show(1);
        Check.due("first", x.section(), 0);
        Check.due("date of a negative value", x.show(-1), CellFormatter.NOTSHOWN);
        Check.due("not shown", x.section(), CellFormatter.BAD);
        Check.due("shown with no characters", x.show(0), 0);
        Check.due("third", x.section(), 2);
        x.erase();
        x.compile();
        Check.due("stays when the code changes", x.section(), 2);
        x.calendar(true);
        Check.due("stays when the calendar changes", x.section(), 2);
    }

    private static void sectionsBySign() {
        String[] codes = {"\"a\"", "\"a\";\"b\"", "\"a\";\"b\";\"c\""};
        String[][] want = {{"a", "a", "-a"}, {"a", "a", "b"}, {"a", "c", "b"}};
        long[] values = {1, 0, -1};
        for (int i = 0; i < codes.length; i++) {
            for (int j = 0; j < values.length; j++) {
                Check.due(codes[i] + " of " + values[j], Check.shown(Check.compiled(codes[i]), values[j]), want[i][j]);
            }
        }
        Check.shows("0;0;\"z\"", "0.4", "0");
        Check.shows("0;(0);\"z\"", "-0.4", "(0)");
    }

    private static void condition(String test, String below, String same, String above) {
        CellFormatter x = Check.compiled("[" + test + "12]\"y\";\"n\"");
        Check.due(test + " below", Check.shown(x, 11999999), below);
        Check.due(test + " same", Check.shown(x, 12000000), same);
        Check.due(test + " above", Check.shown(x, 12000001), above);
    }

    private static void sectionsByCondition() {
        condition("<", "y", "n", "n");
        condition("<=", "y", "y", "n");
        condition(">", "n", "n", "y");
        condition(">=", "n", "y", "y");
        condition("=", "n", "y", "n");
        condition("<>", "y", "n", "y");
        Check.shows("[=-999999]\"y\";\"n\"", "-999999", "-y");
        Check.shows("[=-0]\"y\";\"n\"", "0", "y");
        Check.shows("[=007]\"y\";\"n\"", "7", "y");
        Check.shows("[>1]0", "1", null);
        Check.shows("[>5]0;[<-5]0;[=0]0", "3", null);
        Check.shows("[>5]0;[<-5](0)", "-6", "-(6)");
        Check.shows("0;[<-5](0)", "-6", "-6");
        Check.shows("[>5]0;0;\"z\"", "0", "0");
        Check.shows("[>5]0;0;\"z\"", "-2", "-2");
        Check.shows("[>5]0;[>2]\"b\";\"z\"", "3", "b");
        Check.shows("[>5]0;[>2]\"b\";\"z\"", "-3", "-z");
        CellFormatter x = Check.compiled("[>5]0;[>2]0");
        Check.due("none holds", x.show(0), CellFormatter.NOTSHOWN);
        Check.due("none holds: section", x.section(), CellFormatter.BAD);
        x.erase();
        Check.feedAll(x, "0;\"b\"");
        x.compile();
        Check.due("conditions of the older code are gone", Check.shown(x, -1), "b");
    }

    private static void plain() {
        Check.shows("\"a;b\"\\;_;\\\"\"\"", "1", "a;b; \"");
        Check.shows(" !$&'()+-/:=^{}~", "1", " !$&'()+-/:=^{}~");
        Check.shows("\"a\"", "-0.000001", "-a");
        Check.shows("", "-1", "-");
        Check.shows("[<0]\"a\"", "-1", "-a");
        Check.shows(";\"a\"", "-1", "a");
        Check.shows("\\\\\\_\\0", "1", "\\_0");
    }

    private static void rounding() {
        Check.shows("0", "0.5", "1");
        Check.shows("0", "0.499999", "0");
        Check.shows("0", "2.5", "3");
        Check.shows("0", "-2.5", "-3");
        Check.shows("0.00", "1.005", "1.01");
        Check.shows("0.00", "1.004999", "1.00");
        Check.shows("0.000000", "1.000001", "1.000001");
        Check.shows("0.00000000", "1.000001", "1.00000100");
        for (int decimals = 0; decimals <= 5; decimals++) {
            String kept = decimals == 0 ? "0" : "0." + "0".repeat(decimals);
            String up = decimals == 0 ? "8" : "7." + "0".repeat(decimals - 1) + "1";
            String half = decimals == 0 ? "7.5" : "7." + "0".repeat(decimals) + "5";
            String less = half.substring(0, half.length() - 1) + "4";
            Check.shows(kept, half, up);
            Check.shows(kept, less, kept.replaceFirst("0", "7"));
        }
        Check.shows("0", "999.5", "1000");
        Check.shows("0.00", "9.995", "10.00");
        Check.shows("0.", "9.5", "10.");
    }

    private static void signs() {
        Check.shows("0", "-0.4", "0");
        Check.shows("0.0", "-0.04", "0.0");
        Check.shows("0.0", "-0.05", "-0.1");
        Check.shows("$0", "-5", "-$5");
        Check.shows("0;0", "-5", "5");
        Check.shows("0;-0", "-5", "-5");
        Check.shows("0;0;0", "-5", "5");
        Check.shows("[<0]0;0", "-5", "-5");
        Check.shows(".0", "-12", "-.0");
        Check.shows("#", "-0.4", "");
    }

    private static void integerPlaces() {
        Check.shows("000", "7", "007");
        Check.shows("###", "7", "7");
        Check.shows("???", "7", "  7");
        Check.shows("#", "0", "");
        Check.shows("?", "0", " ");
        Check.shows("#.0", "0.5", ".5");
        Check.shows("?.0", "0.5", " .5");
        Check.shows("0.0", "0.5", "0.5");
        Check.shows("0", "12345", "12345");
        Check.shows("0-0", "12345", "1234-5");
        Check.shows("(000) 000-0000", "12345678", "(001) 234-5678");
        Check.shows("#-#-#", "12", "-1-2");
        Check.shows("?-#-0", "0", " --0");
        Check.shows("0#?", "5", "05");
        Check.shows("0#?", "0", "0 ");
        Check.shows("\"<\"0\">\"", "105", "<105>");
        Check.shows(".0", "12.34", ".3");
        Check.shows("#0#", "100", "100");
    }

    private static void fractionPlaces() {
        Check.shows("0.##", "1", "1.");
        Check.shows("0.??", "1", "1.  ");
        Check.shows("0.00", "1", "1.00");
        Check.shows("0.##", "1.5", "1.5");
        Check.shows("0.??", "1.5", "1.5 ");
        Check.shows("0.##", "1.05", "1.05");
        Check.shows("0.#0", "1", "1.0");
        Check.shows("0.0#?", "1", "1.0 ");
        Check.shows("0.?#", "1.01", "1.01");
        Check.shows("0.##", "1.001", "1.");
        Check.shows("0.0-0", "1.23", "1.2-3");
        Check.shows("0.# ", "2", "2. ");
        Check.shows("0.0########", "1.000001", "1.000001");
    }

    private static void grouping() {
        Check.shows("#,##0", "1234567", "1,234,567");
        Check.shows("#,##0", "999", "999");
        Check.shows("#,##0", "1000", "1,000");
        Check.shows("0,0", "1234567", "1,234,567");
        Check.shows("0,000", "7", "0,007");
        Check.shows("0000,000", "7", "0,000,007");
        Check.shows("?,???", "7", "   7");
        Check.shows("#,###", "7", "7");
        Check.shows("0,###", "7", "0,7");
        Check.shows("#,0-0", "123456", "123,45-6");
        Check.shows("0,0-0-00", "123456", "123,-4-56");
        Check.shows("#,##0.000000", "1234.567891", "1,234.567891");
        Check.shows("#,##0", "1000000000", "1,000,000,000");
        Check.shows("0,0", "-1234", "-1,234");
        Check.shows("0, 0", "1234", "1,23 4");
    }

    private static void scalingAndPercent() {
        Check.shows("0,", "1500", "2");
        Check.shows("0,", "1499.999999", "1");
        Check.shows("0,.000", "1234.5", "1.235");
        Check.shows("0,,.0", "1250000", "1.3");
        Check.shows("#,##0,", "999999500", "1,000,000");
        Check.shows("#,##0,", "999999499.999999", "999,999");
        Check.shows("0" + ",".repeat(39), "1000000000", "0");
        Check.shows("0,,,,,,.000000000000000000", "1000000000", "0.000000001000000000");
        Check.shows("0,,,,,,,.0000000000000000000000000000", "123456789", "0.0000000000001234567890000000");
        Check.shows("0%", "0.125", "13%");
        Check.shows("%0", "0.5", "%50");
        Check.shows("0%%", "0.5", "5000%%");
        Check.shows("0.00%", "0.123456", "12.35%");
        Check.shows("0%", "-0.004", "0%");
        Check.shows("0,%", "5", "1%");
        Check.shows("0,%", "4.99", "0%");
        Check.shows("#,##0%%", "1000000000", "10,000,000,000,000%%");
        Check.shows("\"%\"0", "5", "%5");
    }

    private static void exponents() {
        Check.shows("0E+0", "12345", "1E+4");
        Check.shows("0E-0", "12345", "1E4");
        Check.shows("0E+0", "0.00012", "1E-4");
        Check.shows("0E-0", "0.00012", "1E-4");
        Check.shows("0E+0", "0", "0E+0");
        Check.shows("#E+0", "0", "E+0");
        Check.shows("0E+0", "1", "1E+0");
        Check.shows("0E+0", "9.5", "1E+1");
        Check.shows("0E+0", "9.499999", "9E+0");
        Check.shows("0E+0", "0.95", "1E+0");
        Check.shows("0.00E+00", "1000000000", "1.00E+09");
        Check.shows("0.00E+00", "0.000001", "1.00E-06");
        Check.shows("##0.0E+0", "999.95", "1.0E+3");
        Check.shows("##0.0E+0", "999.949999", "999.9E+0");
        Check.shows("##0.0E+0", "99.96", "100.0E+0");
        Check.shows("000.0E+0", "1", "001.0E+0");
        Check.shows("???E+0", "1", "  1E+0");
        Check.shows("##0.0E+0", "0.05", "50.0E-3");
        Check.shows("00E+0", "0.05", "05E-2");
        Check.shows("00E+0", "0.5", "50E-2");
        Check.shows("00E+0", "0.995", "01E+0");
        Check.shows("0E+0%", "0.5", "5E+1%");
        Check.shows("0.0E+0", "-0.00012", "-1.2E-4");
        Check.shows("0.0E+0;(0.0E+0)", "-120", "(1.2E+2)");
        Check.shows("0E+0;0E+0;\"z\"", "-0.000001", "1E-6");
        Check.shows("#".repeat(36) + "E+0", "0.5", "5" + "0".repeat(35) + "E-36");
        Check.shows("#".repeat(36) + "E+0", "123", "123E+0");
        Check.shows("0.E+0", "15", "2.E+1");
    }

    private static void exponentPlaces() {
        Check.shows("0E+000", "1000", "1E+003");
        Check.shows("0E+###", "1000", "1E+3");
        Check.shows("0E+??", "1000", "1E+ 3");
        Check.shows("0E+#", "1", "1E+");
        Check.shows("0E+?", "1", "1E+ ");
        Check.shows("0E+0", "0", "0E+0");
        Check.shows("0E+0%%", "1000000000", "1E+13%%");
        Check.shows("0E+0-0", "1000", "1E+0-3");
        Check.shows("#".repeat(30) + "E-0", "0.5", "5" + "0".repeat(29) + "E-30");
        Check.shows("0E+0000", "1000", "1E+0003");
    }

    private static void dateFields() {
        Check.shows("yyyy yy m mm mmm d dd ddd", "1", "1900 00 1 01 Jan 1 01 Sun");
        Check.shows("yyyy yy m mm mmm d dd ddd", "60", "1900 00 2 02 Feb 29 29 Wed");
        Check.shows("yyyy yy m mm mmm d dd ddd", "2958465", "9999 99 12 12 Dec 31 31 Fri");
        Check.shows("yy", "36526", "00");
        Check.shows("yy", "38000", "04");
        String[] months = {"Jan", "Feb", "Mar", "Apr", "May", "Jun", "Jul", "Aug", "Sep", "Oct", "Nov", "Dec"};
        CellFormatter x = Check.compiled("mmm/m");
        for (int m = 1; m <= 12; m++) {
            long serial = x.serial(2026, m, 15);
            Check.due("month " + m, Check.shown(x, serial * 1000000), months[m - 1] + "/" + m);
        }
        String[] weekdays = {"Sun", "Mon", "Tue", "Wed", "Thu", "Fri", "Sat"};
        CellFormatter y = Check.compiled("ddd");
        for (int n = 1; n <= 14; n++) {
            Check.due("weekday of " + n, Check.shown(y, n * 1000000L), weekdays[(n - 1) % 7]);
        }
        Check.shows("yyyy\"-\"mm\\-dd_x", "61", "1900-03-01 ");
        Check.shows("[>0]yyyy", "61", "1900");
        Check.shows("dd;yyyy", "-61", null);
        Check.shows("yyyy", "-0.000001", null);
    }

    private static void minutes() {
        String moment = "61.123456";
        Check.shows("h:m", moment, "2:57");
        Check.shows("hh:mm:ss", moment, "02:57:47");
        Check.shows("[h] \"x\" m", moment, "1466 x 57");
        Check.shows("m:s", moment, "57:47");
        Check.shows("mm-ss", moment, "57-47");
        Check.shows("mm[s]", moment, "575281067");
        Check.shows("m", moment, "3");
        Check.shows("m h", moment, "3 2");
        Check.shows("s m", moment, "47 3");
        Check.shows("h AM/PM m", moment, "2 AM 3");
        Check.shows("m AM/PM s", moment, "3 AM 47");
        Check.shows("h d m", moment, "2 1 3");
        Check.shows("h m m", moment, "2 57 3");
        Check.shows("m m s", moment, "3 57 47");
        Check.shows("h mmm", moment, "2 Mar");
        Check.shows("mmm s", moment, "Mar 47");
        Check.shows("[m] m", moment, "88017 3");
        Check.shows("m [m]", moment, "3 88017");
        Check.shows("h mm d mm", moment, "2 57 1 03");
        Check.shows("hm", moment, "257");
        Check.shows("[h]mm", moment, "146657");
        Check.shows("ms", moment, "5747");
        Check.shows("h\"\"m", moment, "257");
        Check.shows("h;m", moment, "2");
        Check.shows("[<0]h;m", moment, "3");
        Check.shows("m:s", "1.000012", "0:1");
        Check.shows("mm:ss", "1.000012", "00:01");
    }

    private static void hours() {
        String[] twelve = {"12", "1", "2", "3", "4", "5", "6", "7", "8", "9", "10", "11"};
        for (int h = 0; h < 24; h++) {
            long units = (h * 1000000L + 23) / 24 + 12;
            Check.due("h at " + h, Check.shown(Check.compiled("h"), units), String.valueOf(h));
            Check.due("hh at " + h, Check.shown(Check.compiled("hh"), units), h < 10 ? "0" + h : "" + h);
            Check.due("h AM/PM at " + h, Check.shown(Check.compiled("h AM/PM"), units),
                twelve[h % 12] + (h < 12 ? " AM" : " PM"));
            Check.due("AM/PM hh at " + h, Check.shown(Check.compiled("AM/PMhh"), units),
                (h < 12 ? "AM" : "PM") + (twelve[h % 12].length() < 2 ? "0" : "") + twelve[h % 12]);
        }
        Check.shows("h;AM/PM", "0.75", "18");
        Check.shows("h \"AM/PM\"", "0.75", "18 AM/PM");
    }

    private static void elapsed() {
        Check.shows("[h]", "1.5", "36");
        Check.shows("[m]", "1.5", "2160");
        Check.shows("[s]", "1.5", "129600");
        Check.shows("[h]", "0", "0");
        Check.shows("[m]", "0.000694", "1");
        Check.shows("[m]", "0.000683", "0");
        Check.shows("[h] AM/PM", "0.75", "18 PM");
        Check.shows("[s]", "2958465", "255611376000");
    }

    private static void daysOutsideTheCalendar() {
        String[] naming = {"yy", "yyyy", "m", "mm", "mmm", "d", "dd", "ddd", "h d", "m h", "h:mm mmm"};
        for (String code : naming) {
            Check.shows(code, "0.5", null);
            Check.shows(code, "2958466", null);
            Check.due(code + " of the last day", Check.compiled(code).show(2958465000000L) > 0, true);
            CellFormatter x = Check.compiled(code);
            x.calendar(true);
            Check.due(code + " of 0 in 1904", x.show(0) > 0, true);
            Check.due(code + " of the last in 1904", x.show(2957003000000L) > 0, true);
            Check.due(code + " behind the last in 1904", x.show(2957004000000L), CellFormatter.NOTSHOWN);
            Check.due(code + " below 0 in 1904", x.show(-1), CellFormatter.NOTSHOWN);
        }
        String[] others = {"h", "hh", "s", "ss", "AM/PM", "[h]", "[m]", "[s]", "h:mm", "mm:ss"};
        for (String code : others) {
            CellFormatter x = Check.compiled(code);
            Check.due(code + " of 0", x.show(0) > 0, true);
            Check.due(code + " of the last", x.show(2958465000000L) > 0, true);
            Check.due(code + " behind the last", x.show(2958466000000L), CellFormatter.NOTSHOWN);
            Check.due(code + " of the greatest", x.show(1000000000000000L), CellFormatter.NOTSHOWN);
            Check.due(code + " below 0", x.show(-1), CellFormatter.NOTSHOWN);
            x.calendar(true);
            Check.due(code + " of 0 in 1904", x.show(0) > 0, true);
            Check.due(code + " of the last in 1904", x.show(2957003000000L) > 0, true);
            Check.due(code + " behind the last in 1904", x.show(2957004000000L), CellFormatter.NOTSHOWN);
        }
    }

    private static void secondsAreRounded() {
        Check.shows("[s]", "0.000005", "0");
        Check.shows("[s]", "0.000006", "1");
        Check.shows("[s]", "0.003125", "270");
        Check.shows("[s]", "0.000625", "54");
        Check.shows("[s]", "0.015625", "1350");
        Check.shows("h:mm:ss", "0.999994", "23:59:59");
        Check.shows("h:mm:ss", "0.999995", "0:00:00");
        Check.shows("d h:mm:ss", "1.999995", "2 0:00:00");
        Check.shows("d", "0.999999", "1");
        Check.shows("d", "0.999994", null);
        Check.shows("d", "2958465.999994", "31");
        Check.shows("d", "2958465.999995", null);
        Check.shows("h", "2958465.999995", null);
    }

    private static void longestText() {
        Check.shows("[s]".repeat(13), "2958465", "255611376000".repeat(13));
    }
}
