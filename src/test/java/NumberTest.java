import java.math.BigDecimal;
import java.math.RoundingMode;

/** The sentences of the terms on what NUMBER sections show; a test for each. Promise 8. */
public final class NumberTest {
    public static void main(String[] args) {
        valueRange();
        percentsAndScalings();
        rounding();
        roundingAtEveryDecimal();
        roundingAtEveryScale();
        exponentChoice();
        exponentOfZero();
        exponentGrows();
        sign();
        literalsAndMarks();
        exponentMark();
        integerPlaces();
        greaterPowers();
        powersWithoutDigit();
        placesWithoutDigit();
        grouping();
        fractionPlaces();
        fractionPlacesWithZerosOnly();
        exponentPlaces();
        Check.end();
    }

    private static void valueRange() {
        Check.sentence("8", "units, a long, stands for units / 1000000; it is from -10^15 to 10^15.");
        CellFormatter x = Check.compiled("0.000000");
        Check.due("1", Check.shown(x, 1), "0.000001");
        Check.due("-1", Check.shown(x, -1), "-0.000001");
        Check.due("1000000", Check.shown(x, 1000000), "1.000000");
        Check.due("greatest", Check.shown(x, 1000000000000000L), "1000000000.000000");
        Check.due("least", Check.shown(x, -1000000000000000L), "-1000000000.000000");
        Check.due("below greatest", Check.shown(x, 999999999999999L), "999999999.999999");
        Check.due("too great", x.show(1000000000000001L), CellFormatter.BAD);
        Check.due("too small", x.show(-1000000000000001L), CellFormatter.BAD);
    }

    private static void percentsAndScalings() {
        Check.sentence("8", "Let x be the value without its sign, times 100 for each percent, "
            + "divided by 1000 for each comma that scales.");
        Check.shows("0%", "0.01", "1%");
        Check.shows("%0", "0.5", "%50");
        Check.shows("0%%", "0.0001", "1%%");
        Check.shows("%0%", "-0.0001", "-%1%");
        Check.shows("0.00%", "0.123456", "12.35%");
        Check.shows("0E+0%", "0.5", "5E+1%");
        Check.shows("0%%", "1000000000", "10000000000000%%");
        Check.shows("#,##0%%", "-1000000000", "-10,000,000,000,000%%");
        Check.shows("\"%\"0\\%", "5", "%5%");
        Check.shows("0,", "1000", "1");
        Check.shows("0,.000", "1", "0.001");
        Check.shows("0,,.000", "1000000", "1.000");
        Check.shows("0,%", "10", "1%");
        Check.shows("0,%%", "0.1", "1%%");
        Check.shows("#,##0,", "1000000000", "1,000,000");
        Check.shows("0,,,", "1000000000", "1");
        Check.shows("0" + ",".repeat(39), "1000000000", "0");
        Check.shows("0,,,,,,.000000000000000000", "1000000000", "0.000000001000000000");
        Check.shows("0,,,,,,,.0000000000000000000000000000", "123456789", "0.0000000000001234567890000000");
    }

    private static void rounding() {
        Check.sentence("8", "Without an exponent, x is ROUNDED to as many decimals as there are fraction places "
            + "(a half goes up).");
        Check.shows("0", "0.5", "1");
        Check.shows("0", "0.499999", "0");
        Check.shows("0", "1.5", "2");
        Check.shows("0", "2.5", "3");
        Check.shows("0", "-2.5", "-3");
        Check.shows("0", "-2.499999", "-2");
        Check.shows("0", "9.5", "10");
        Check.shows("0", "999.5", "1000");
        Check.shows("0.", "9.5", "10.");
        Check.shows("0", "999999999.5", "1000000000");
        Check.shows("0.00", "9.995", "10.00");
        Check.shows("0.00", "9.994999", "9.99");
        Check.shows("#.##", "0.995", "1.");
        Check.shows("0,", "500", "1");
        Check.shows("0,", "499.999999", "0");
        Check.shows("0,,,", "500000000", "1");
        Check.shows("0,,,", "499999999.999999", "0");
        Check.shows("0,,,,", "1000000000", "0");
        Check.shows("0%", "0.005", "1%");
        Check.shows("0%", "0.004999", "0%");
        Check.shows("0.0%%", "0.000005", "0.1%%");
        Check.shows("0.0%%", "0.000004", "0.0%%");
    }

    private static void roundingAtEveryDecimal() {
        Check.sentence("8", "Without an exponent, x is ROUNDED to as many decimals as there are fraction places "
            + "(a half goes up).");
        for (int decimals = 1; decimals <= 5; decimals++) {
            String zeros = "0".repeat(decimals);
            Check.shows("0." + zeros, "7." + zeros + "5", "7." + zeros.substring(1) + "1");
            Check.shows("0." + zeros, "7." + zeros + "4", "7." + zeros);
            Check.shows("0." + zeros, "7." + "9".repeat(decimals) + "5", "8." + zeros);
        }
        for (int decimals = 6; decimals <= 38; decimals++) {
            Check.shows("0." + "0".repeat(decimals), "7.000001", "7.000001" + "0".repeat(decimals - 6));
        }
    }

    /** Takes every number of scaling commas with zero to two percents and some decimals. */
    private static void roundingAtEveryScale() {
        Check.sentence("8", "Without an exponent, x is ROUNDED to as many decimals as there are fraction places "
            + "(a half goes up).");
        String[] numbers = {"0.000001", "0.5", "500", "499.999999", "500000000", "999999999.999999", "1000000000"};
        for (int commas = 0; commas <= 32; commas++) {
            for (int percents = 0; percents <= 2; percents++) {
                for (int decimals = 1; decimals <= 4; decimals++) {
                    String code = "0" + ",".repeat(commas) + "." + "0".repeat(decimals) + "%".repeat(percents);
                    for (String number : numbers) {
                        BigDecimal x = new BigDecimal(number).scaleByPowerOfTen(2 * percents - 3 * commas);
                        String digits = x.setScale(decimals, RoundingMode.HALF_UP).toPlainString();
                        Check.shows(code, number, digits + "%".repeat(percents));
                    }
                }
            }
        }
    }

    private static void exponentChoice() {
        Check.sentence("8", "With an exponent and p integer places: "
            + "let e be the greatest multiple of p with 10^e not greater than x");
        Check.shows("0E+0", "1", "1E+0");
        Check.shows("0.000000E+0", "0.999999", "9.999990E-1");
        Check.shows("0.000000E+0", "9.999999", "9.999999E+0");
        Check.shows("0E+0", "10", "1E+1");
        Check.shows("0E+0", "1000000000", "1E+9");
        Check.shows("0E+0", "0.000001", "1E-6");
        Check.shows("0E+0%%", "1000000000", "1E+13%%");
        Check.shows("0E+0%%", "0.000001", "1E-2%%");
        Check.shows("00E+0", "99", "99E+0");
        Check.shows("00E+0", "100", "01E+2");
        Check.shows("00E+0", "0.01", "01E-2");
        Check.shows("00.00E+0", "0.009999", "99.99E-4");
        Check.shows("000E+0", "999", "999E+0");
        Check.shows("000E+0", "1000", "001E+3");
        Check.shows("000E+0", "0.001", "001E-3");
        Check.shows("000E+0", "0.000999", "999E-6");
        Check.shows("000E+0", "0.000001", "001E-6");
        Check.shows("##0.0E+0", "0.05", "50.0E-3");
        Check.shows("###E+0", "-0.05", "-50E-3");
        Check.shows("#".repeat(37) + "E+0", "0.5", "5" + "0".repeat(36) + "E-37");
        Check.shows("#".repeat(37) + "E+0", "1", "1E+0");
        Check.shows("0".repeat(37) + "E+0", "1000000000", "0".repeat(27) + "1000000000E+0");
    }

    private static void exponentOfZero() {
        Check.sentence("8", "(0 when x is 0)");
        Check.shows("0E+0", "0", "0E+0");
        Check.shows("0E-0", "0", "0E0");
        Check.shows("000.00E+00", "0", "000.00E+00");
        Check.shows("#E+#", "0", "E+");
        Check.shows("?.?E+?", "0", " . E+ ");
        Check.shows("0E+0%%", "0", "0E+0%%");
    }

    private static void exponentGrows() {
        Check.sentence("8", "x is divided by 10^e and rounded likewise; "
            + "when that gives 10^p, e grows by p and it is 1.");
        Check.shows("0E+0", "9.5", "1E+1");
        Check.shows("0E+0", "9.499999", "9E+0");
        Check.shows("0E+0", "0.95", "1E+0");
        Check.shows("0E+0", "0.949999", "9E-1");
        Check.shows("0E+0", "0.0095", "1E-2");
        Check.shows("0E+0", "999999999.999999", "1E+9");
        Check.shows("0.0E+0", "9.95", "1.0E+1");
        Check.shows("0.0E+0", "9.949999", "9.9E+0");
        Check.shows("0.E+0", "95", "1.E+2");
        Check.shows("00E+0", "9.5", "10E+0");
        Check.shows("00E+0", "99.5", "01E+2");
        Check.shows("00E+0", "0.995", "01E+0");
        Check.shows("00E+0", "0.994999", "99E-2");
        Check.shows("##0.0E+0", "99.96", "100.0E+0");
        Check.shows("##0.0E+0", "999.95", "1.0E+3");
        Check.shows("##0.0E+0", "999.949999", "999.9E+0");
        Check.shows("000E+0", "-999.5", "-001E+3");
    }

    private static void sign() {
        Check.sentence("8", "The tokens are shown in their order, after a - if the value is negative, "
            + "not shown without sign, and what was rounded is not 0.");
        Check.shows("0", "-0.5", "-1");
        Check.shows("0", "-0.499999", "0");
        Check.shows("0", "0", "0");
        Check.shows("0.0", "-0.05", "-0.1");
        Check.shows("0.0", "-0.049999", "0.0");
        Check.shows("0.000000", "-0.000001", "-0.000001");
        Check.shows("#", "-0.4", "");
        Check.shows("#", "-0.5", "-1");
        Check.shows("0%", "-0.005", "-1%");
        Check.shows("0%", "-0.004999", "0%");
        Check.shows("0,", "-500", "-1");
        Check.shows("0,", "-499.999999", "0");
        Check.shows("0" + ",".repeat(39), "-1000000000", "0");
        Check.shows("0E+0", "-0.000001", "-1E-6");
        Check.shows("$0", "-5", "-$5");
        Check.shows("???", "-5", "-  5");
        Check.shows("0;0", "-5", "5");
        Check.shows("0;(0);\"z\"", "-0.4", "(0)");
        Check.shows("[<0]0", "-5", "-5");
        Check.shows("[<0]0", "-0.4", "0");
        Check.shows(".0", "-12", "-.0");
    }

    private static void literalsAndMarks() {
        Check.sentence("8", "Literals and percents show themselves (%), a point a point, commas nothing");
        Check.shows("\"a\"0\\b_c", "1", "a1b ");
        Check.shows("%0%", "1", "%10000%");
        Check.shows("0.", "1", "1.");
        Check.shows("#.#", "0", ".");
        Check.shows("0,", "1000", "1");
        Check.shows("0,0", "1", "01");
        Check.shows("\"\"0\"\"", "1", "1");
        Check.shows("[>0]0", "1", "1");
    }

    private static void exponentMark() {
        Check.sentence("8", "the exponent E and then a - when e is negative, else a + if it was E+.");
        Check.shows("0E+0", "0.1", "1E-1");
        Check.shows("0E+0", "1", "1E+0");
        Check.shows("0E+0", "10", "1E+1");
        Check.shows("0E-0", "0.1", "1E-1");
        Check.shows("0E-0", "1", "1E0");
        Check.shows("0E-0", "10", "1E1");
        Check.shows("0E+ 0", "10", "1E+ 1");
        Check.shows("0 E- 0", "0.1", "1 E- 1");
    }

    private static void integerPlaces() {
        Check.sentence("8", "the integer place r shows the digit of 10^r of what was rounded");
        Check.shows("000", "123", "123");
        Check.shows("###", "123", "123");
        Check.shows("???", "123", "123");
        Check.shows("0-0-0", "123", "1-2-3");
        Check.shows("#-#-#", "100", "1-0-0");
        Check.shows("?-?-?", "100", "1-0-0");
        Check.shows("(000) 000-0000", "12345678", "(001) 234-5678");
        Check.shows("0-0", "9.5", "1-0");
        Check.shows("0".repeat(40), "1000000000", "0".repeat(30) + "1000000000");
        Check.shows("#".repeat(40), "1000000000", "1000000000");
    }

    private static void greaterPowers() {
        Check.sentence("8", "the first one shows before that all digits of greater powers, the highest first.");
        Check.shows("0", "12345", "12345");
        Check.shows("#", "12345", "12345");
        Check.shows("?", "12345", "12345");
        Check.shows("0-0", "12345", "1234-5");
        Check.shows("#-0-0", "12345", "123-4-5");
        Check.shows("\"<\"0\">\"", "105", "<105>");
        Check.shows("0", "1000000000", "1000000000");
        Check.shows(".0", "12.34", ".3");
        Check.shows(".0", "9.96", ".0");
    }

    private static void powersWithoutDigit() {
        Check.sentence("8", "A power of 10 greater than the rounded number, or any for a number below 1, has no digit");
        Check.shows("##", "9", "9");
        Check.shows("##", "10", "10");
        Check.shows("##", "9.5", "10");
        Check.shows("#", "1", "1");
        Check.shows("#", "0", "");
        Check.shows("#", "0.499999", "");
        Check.shows("#", "0.5", "1");
        Check.shows("#.0", "0.9", ".9");
        Check.shows("#.0", "0.95", "1.0");
        Check.shows("#.0", "0", ".0");
        Check.shows("?.0", "0.9", " .9");
        Check.shows("0.0", "0.9", "0.9");
    }

    private static void placesWithoutDigit() {
        Check.sentence("8", "a place 0 shows 0 for it, # nothing, ? a space.");
        Check.shows("000", "7", "007");
        Check.shows("###", "7", "7");
        Check.shows("???", "7", "  7");
        Check.shows("000", "0", "000");
        Check.shows("###", "0", "");
        Check.shows("???", "0", "   ");
        Check.shows("0#?", "0", "0 ");
        Check.shows("?#0", "0", " 0");
        Check.shows("#0?", "5", "05");
        Check.shows("0#?", "15", "015");
        Check.shows("#-#-#", "12", "-1-2");
        Check.shows("?-#-0", "0", " --0");
    }

    private static void grouping() {
        Check.sentence("8", "When digits are grouped, a comma follows each digit "
            + "(also a 0 shown by a place 0, not a space) of 10^3, 10^6, 10^9, ...");
        Check.shows("#,##0", "999", "999");
        Check.shows("#,##0", "1000", "1,000");
        Check.shows("#,##0", "999.5", "1,000");
        Check.shows("#,##0", "999999", "999,999");
        Check.shows("#,##0", "1000000", "1,000,000");
        Check.shows("#,##0", "1000000000", "1,000,000,000");
        Check.shows("#,##0%%", "1000000000", "10,000,000,000,000%%");
        Check.shows("0,0", "7", "07");
        Check.shows("0,000", "7", "0,007");
        Check.shows("0000,000", "7", "0,000,007");
        Check.shows("0,".repeat(19) + "0", "0", "00,000,000,000,000,000,000");
        Check.shows("?,???", "7", "   7");
        Check.shows("?,???", "1007", "1,007");
        Check.shows("#,###", "7", "7");
        Check.shows("#,###", "0", "");
        Check.shows("0,###", "7", "0,7");
        Check.shows("#,0-0", "123456", "123,45-6");
        Check.shows("0,0-0-00", "123456", "123,-4-56");
        Check.shows("#,##0.000000", "1234.567891", "1,234.567891");
        Check.shows("0,0", "-1234", "-1,234");
    }

    private static void fractionPlaces() {
        Check.sentence("8", "the fraction place k (1, 2, ..) shows digit k behind the point");
        Check.shows("0.0", "1.2", "1.2");
        Check.shows("0.000000", "1.234567", "1.234567");
        Check.shows("0.######", "1.234567", "1.234567");
        Check.shows("0.??????", "1.234567", "1.234567");
        Check.shows("0.0-0", "1.23", "1.2-3");
        Check.shows("0.#-#", "1.03", "1.0-3");
        Check.shows("0.0000000", "0.000001", "0.0000010");
        Check.shows("0.0%0", "0.0123", "1.2%3");
        Check.shows("0.00E+0", "1234", "1.23E+3");
    }

    private static void fractionPlacesWithZerosOnly() {
        Check.sentence("8", "but when that one and all digits behind it are 0 and the place is # it shows nothing, "
            + "and when it is ? a space.");
        Check.shows("0.00", "1", "1.00");
        Check.shows("0.##", "1", "1.");
        Check.shows("0.??", "1", "1.  ");
        Check.shows("0.##", "1.5", "1.5");
        Check.shows("0.??", "1.5", "1.5 ");
        Check.shows("0.##", "1.05", "1.05");
        Check.shows("0.??", "1.05", "1.05");
        Check.shows("0.#0", "1", "1.0");
        Check.shows("0.?0", "1", "1. 0");
        Check.shows("0.0#?", "1", "1.0 ");
        Check.shows("0.?#", "1.01", "1.01");
        Check.shows("0.##", "1.004999", "1.");
        Check.shows("0.##", "1.005", "1.01");
        Check.shows("0.##", "0.995", "1.");
        Check.shows("#.#", "0", ".");
        Check.shows("0." + "#".repeat(38), "1.000001", "1.000001");
        Check.shows("0." + "?".repeat(38), "1.000001", "1.000001" + " ".repeat(32));
        Check.shows("0.##E+0", "1000", "1.E+3");
    }

    private static void exponentPlaces() {
        Check.sentence("8", "Exponent places show e without its sign as integer places show a number, "
            + "without grouping.");
        Check.shows("0E+000", "1000", "1E+003");
        Check.shows("0E+###", "1000", "1E+3");
        Check.shows("0E+???", "1000", "1E+  3");
        Check.shows("0E+#", "1", "1E+");
        Check.shows("0E+?", "1", "1E+ ");
        Check.shows("0E+0", "1", "1E+0");
        Check.shows("0E+0%%", "1000000000", "1E+13%%");
        Check.shows("0E+#%%", "1000000000", "1E+13%%");
        Check.shows("0E+0-0-0%%", "1000000000", "1E+0-1-3%%");
        Check.shows("0E-00", "0.001", "1E-03");
        Check.shows("#".repeat(30) + "E-0", "0.5", "5" + "0".repeat(29) + "E-30");
        Check.shows("0E+" + "0".repeat(37), "1000", "1E+" + "0".repeat(36) + "3");
    }
}
