/**
 * The sentences of the terms on the kinds of sections, when they are well made, which of them is for a value, and
 * what PLAIN ones show; a test for each. Promises 4, 6, 8 and 10.
 */
public final class SectionsTest {
    public static void main(String[] args) {
        kinds();
        atMostOneCondition();
        dateHasNoMarks();
        plainHasNoMarks();
        atMostOnePoint();
        atMostOneExponent();
        atMostTwoPercents();
        pointBeforeExponent();
        placesAroundExponent();
        integerPlacesBeforePoint();
        exponentNeedsIntegerPlace();
        groupingCommas();
        scalingCommas();
        noCommasWithoutIntegerPlaces();
        firstConditionThatHolds();
        noneHolds();
        comparedWithTheNumber();
        oneSection();
        twoSections();
        threeSections();
        withoutSign();
        plain();
        Check.end();
    }

    private static void kindOf(String code, int kind) {
        Check.due("kind of " + code, Check.compiled(code).kind(0), kind);
    }

    private static void kinds() {
        Check.sentence("6", "A section is a DATE when it has a field; else a NUMBER when it has a place; else PLAIN.");
        String[] dates = {"yy", "yyyy", "m", "mm", "mmm", "d", "dd", "ddd", "h", "hh", "s", "ss", "[h]", "[m]", "[s]",
            "AM/PM", "[<1]d", "\"0\"d", "d\\0"};
        for (String code : dates) {
            kindOf(code, 2);
        }
        for (String code : new String[] {"0", "#", "?", "[<1]0", "\"y\"0", "0\\y", ".0", "0_d"}) {
            kindOf(code, 1);
        }
        for (String code : new String[] {"", "[<1]", "\"\"", "\"0\"\\0_0", "\"yy\"\\m_d", "-"}) {
            kindOf(code, 0);
        }
        Check.due("each by its own tokens", Check.compiled("d;0;").kind(1), 1);
        Check.due("each by its own tokens", Check.compiled("d;0;").kind(2), 0);
    }

    private static void atMostOneCondition() {
        Check.sentence("4", "It is WELL MADE when it has at most one condition, and that as its first token");
        Check.compiles("[<1]", 1);
        Check.compiles("[<1]0", 1);
        Check.compiles("[<1]\"a\";[<1]yy;[<1]0", 3);
        Check.illMade("[<1][<1]", 0);
        Check.illMade("[<1][>2]0", 0);
        Check.illMade("[<1]0[>1]", 0);
        Check.illMade("[<1]yy[>1]", 0);
        Check.illMade("0[<1]", 0);
        Check.illMade(" [<1]", 0);
        Check.illMade("\"\"[<1]0", 0);
        Check.illMade("\\ [<1]0", 0);
        Check.illMade("yy[<1]", 0);
        Check.illMade("0;0;0[<1]", 2);
    }

    private static void dateHasNoMarks() {
        Check.sentence("4", "a DATE has no places, point, comma, percent or exponent");
        for (String field : new String[] {"yy", "m", "ddd", "h", "ss", "[h]", "[m]", "[s]", "AM/PM"}) {
            for (String mark : new String[] {"0", "#", "?", ".", ",", "%", "E+", "E-", "0E+0"}) {
                Check.illMade(field + mark, 0);
                Check.illMade(mark + " " + field, 0);
            }
        }
        Check.compiles("yy\"0.,%E+\"\\0_#", 1);
    }

    private static void plainHasNoMarks() {
        Check.sentence("4", "a PLAIN one no point, comma, percent or exponent");
        for (String mark : new String[] {".", ",", "%", "E+", "E-"}) {
            Check.illMade(mark, 0);
            Check.illMade("\"a\"" + mark, 0);
            Check.illMade(mark + "\"0\"", 0);
            Check.illMade("[<1]" + mark, 0);
            Check.illMade("0;" + mark, 1);
        }
        Check.compiles("\".,%E+\"", 1);
    }

    private static void atMostOnePoint() {
        Check.sentence("4", "a NUMBER at most one point");
        Check.compiles("0", 1);
        Check.compiles("0.", 1);
        Check.compiles(".0", 1);
        Check.illMade("0..", 0);
        Check.illMade("..0", 0);
        Check.illMade(".0.", 0);
        Check.illMade("0.0.0", 0);
        Check.illMade("0.0.E+0", 0);
    }

    private static void atMostOneExponent() {
        Check.sentence("4", "at most one exponent");
        Check.compiles("0E+0", 1);
        Check.illMade("0E+E+0", 0);
        Check.illMade("0E+0E+0", 0);
        Check.illMade("0E+0E-0", 0);
    }

    private static void atMostTwoPercents() {
        Check.sentence("4", "at most two percents");
        Check.compiles("0%", 1);
        Check.compiles("0%%", 1);
        Check.compiles("%0%", 1);
        Check.compiles("0%E+%0", 1);
        Check.illMade("0%%%", 0);
        Check.illMade("%0%.0%", 0);
        Check.illMade("%0%E+0%", 0);
        Check.compiles("0%%\"%\"\\%", 1);
    }

    private static void pointBeforeExponent() {
        Check.sentence("4", "a point only before the exponent");
        Check.compiles("0.E+0", 1);
        Check.compiles("0.0E+0", 1);
        Check.illMade("0E+.0", 0);
        Check.illMade("0E+0.", 0);
        Check.illMade("0E+0.0", 0);
        Check.illMade("0.0E+0.0", 0);
    }

    private static void placesAroundExponent() {
        Check.sentence("4", "at least one place before and one behind the exponent if it has one");
        Check.compiles("0E+0", 1);
        Check.compiles("#E-?", 1);
        Check.compiles("0\"a\"E+\"b\"0", 1);
        Check.illMade("0E+", 0);
        Check.illMade("E+0", 0);
        Check.illMade("0.0E-", 0);
        Check.illMade("0E+\"0\"", 0);
        Check.illMade("\"0\"E+0", 0);
    }

    private static void integerPlacesBeforePoint() {
        Check.sentence("8", "its INTEGER PLACES are those before the point "
            + "(before the exponent, when there is no point); "
            + "its FRACTION PLACES those between the point and the exponent or the end; "
            + "its EXPONENT PLACES those behind the exponent.");
        Check.shows("00.0", "1.25", "01.3");
        Check.shows("00", "1.25", "01");
        Check.shows("00.00E+00", "1.25", "01.25E+00");
        Check.shows("00E+0", "100", "01E+2");
        Check.shows(".00", "1.25", ".25");
        Check.shows("00.", "1.25", "01.");
    }

    private static void exponentNeedsIntegerPlace() {
        Check.sentence("4", "With an exponent there is at least one integer place and there are no commas.");
        Check.compiles("#.0E+0", 1);
        Check.illMade(".0E+0", 0);
        Check.illMade(".E+0", 0);
        Check.illMade("0,E+0", 0);
        Check.illMade("0,0E+0", 0);
        Check.illMade("0,.0E+0", 0);
        Check.illMade("0E+,0", 0);
        Check.illMade("0E+0,0", 0);
        Check.illMade("0E+0,", 0);
        Check.compiles("0\",\"E+0", 1);
    }

    private static void groupingCommas() {
        Check.sentence("4 and 8", "Every comma either has an integer place somewhere before it "
            + "and one somewhere behind it: then digits are GROUPED");
        Check.shows("0,0", "1234", "1,234");
        Check.shows("#,#", "1234", "1,234");
        Check.shows("?,?", "1234", "1,234");
        Check.shows("0,,,0", "1234", "1,234");
        Check.shows("0 , - 0", "1234", "1,23  - 4");
        Check.shows("0,0.0", "1234", "1,234.0");
        Check.shows("0%,0", "12.34", "1,23%4");
        Check.illMade(",0", 0);
        Check.illMade(",0,0", 0);
        Check.illMade("\"a\",0", 0);
        Check.illMade("0.0,0", 0);
        Check.illMade("0.,0", 0);
        Check.shows("00", "1234", "1234");
    }

    private static void scalingCommas() {
        Check.sentence("4 and 8", "or stands behind the last integer place with nothing but commas between: "
            + "then it SCALES.");
        Check.shows("0,", "1234", "1");
        Check.shows("0,,", "12345678", "12");
        Check.shows("0,.0", "1234", "1.2");
        Check.shows("0,%", "12345", "1235%");
        Check.shows("0,\"k\"", "1234", "1k");
        Check.shows("0,0,", "1234567", "1,235");
        Check.shows("0,0,,", "999500000", "1,000");
        Check.illMade("0 ,", 0);
        Check.illMade("0\"\",", 0);
        Check.illMade("0, ,", 0);
        Check.illMade("0%,", 0);
        Check.illMade("0-,.0", 0);
        Check.illMade("0.,", 0);
        Check.illMade("0.0,", 0);
        Check.illMade("0,.0,", 0);
    }

    private static void noCommasWithoutIntegerPlaces() {
        Check.sentence("4", "(Without integer places there are no commas.)");
        Check.compiles(".0", 1);
        Check.illMade(",.0", 0);
        Check.illMade(".,0", 0);
        Check.illMade(".0,", 0);
        Check.illMade(".0,0", 0);
        Check.illMade("\"0\",.0", 0);
    }

    private static void shownBy(String code, String number, int s) {
        CellFormatter x = Check.compiled(code);
        x.show(Check.units(number));
        Check.due("section of \"" + code + "\" for " + number, x.section(), s);
    }

    private static void firstConditionThatHolds() {
        Check.sentence("8 and 10", "When some section has a condition: "
            + "the first section whose condition holds for the value "
            + "(compared with the number, a whole one) or that has none");
        shownBy("[>5]0;[>2]0;0", "6", 0);
        shownBy("[>5]0;[>2]0;0", "3", 1);
        shownBy("[>5]0;[>2]0;0", "2", 2);
        shownBy("[>5]0;[>2]0;0", "-3", 2);
        shownBy("[>2]0;[>5]0;0", "6", 0);
        shownBy("0;[<0]0", "-1", 0);
        shownBy("0;0;[=0]0", "0", 0);
        shownBy("[>5]0;0;0", "0", 1);
        shownBy("[>5]0;0;[=0]0", "0", 1);
        shownBy("[<0]0", "-1", 0);
    }

    private static void noneHolds() {
        Check.sentence("8", "if there is none, the value is NOT SHOWN.");
        Check.notShown("[>1]0", "1");
        Check.notShown("[>1]\"a\"", "-1");
        Check.notShown("[>1]yy", "1");
        Check.notShown("[>5]0;[<-5]0", "5");
        Check.notShown("[>5]0;[<-5]0;[=0]0", "-5");
        Check.notShown("[=0]0;[=1]0;[=2]0", "0.000001");
    }

    private static void condition(String test, String below, String same, String above) {
        for (int number : new int[] {-999999, -12, 0, 12, 999999}) {
            CellFormatter x = Check.compiled("[" + test + number + "]\\y;\\n");
            String[] want = {below, same, above};
            for (int i = 0; i < 3; i++) {
                long units = number * 1000000L + i - 1;
                Check.due(test + number + " of " + units, Check.shown(x, units), (units < 0 ? "-" : "") + want[i]);
            }
        }
    }

    private static void comparedWithTheNumber() {
        Check.sentence("8", "(compared with the number, a whole one)");
        condition("<", "y", "n", "n");
        condition("<=", "y", "y", "n");
        condition(">", "n", "n", "y");
        condition(">=", "n", "y", "y");
        condition("=", "n", "y", "n");
        condition("<>", "y", "n", "y");
    }

    private static void oneSection() {
        Check.sentence("8 and 10", "Otherwise, with one section that one");
        for (String number : new String[] {"0.000001", "0", "-0.000001", "1000000000", "-1000000000"}) {
            shownBy("0", number, 0);
        }
    }

    private static void twoSections() {
        Check.sentence("8 and 10", "with two the second for negative values, the first for others");
        shownBy("0;0", "0.000001", 0);
        shownBy("0;0", "0", 0);
        shownBy("0;0", "-0.000001", 1);
        shownBy("0;0", "1000000000", 0);
        shownBy("0;0", "-1000000000", 1);
        shownBy(";", "-1", 1);
    }

    private static void threeSections() {
        Check.sentence("8 and 10", "with three the second for negative ones, the third for 0, the first for others.");
        shownBy("0;0;0", "0.000001", 0);
        shownBy("0;0;0", "0", 2);
        shownBy("0;0;0", "-0.000001", 1);
        shownBy("0;0;0", "1000000000", 0);
        shownBy("0;0;0", "-1000000000", 1);
        shownBy(";;", "0", 2);
    }

    private static void withoutSign() {
        Check.sentence("8", "A value is shown WITHOUT SIGN when no section has a condition "
            + "and it is shown by the second of two or three.");
        Check.shows("0", "-5", "-5");
        Check.shows("0;0", "-5", "5");
        Check.shows("0;0;0", "-5", "5");
        Check.shows("0;-0", "-5", "-5");
        Check.shows("\\a;\\b", "-5", "b");
        Check.shows("[>5]0;0", "-5", "-5");
        Check.shows("[>5]0;[<0]0;0", "-5", "-5");
        Check.shows("[>5]\\a;\\b", "-5", "-b");
        Check.shows("[>5]0;[>0]0;0", "-5", "-5");
        CellFormatter x = Check.compiled("[>5]0;0");
        Check.due("with a condition", Check.shown(x, -1000000), "-1");
        Check.recompile(x, "0;0");
        Check.due("the conditions of the older code are gone", Check.shown(x, -1000000), "1");
        Check.recompile(x, "[>5]0;.");
        Check.recompile(x, "0;0");
        Check.due("those of one not well made too", Check.shown(x, -1000000), "1");
    }

    private static void plain() {
        Check.sentence("8", "A PLAIN section shows its literals, and before them a - when the value is negative, "
            + "unless it is shown without sign.");
        Check.shows("\"a\"", "0.000001", "a");
        Check.shows("\"a\"", "0", "a");
        Check.shows("\"a\"", "-0.000001", "-a");
        Check.shows("", "-1", "-");
        Check.shows("", "0", "");
        Check.shows("-", "-1", "--");
        Check.shows("[<0]\"a\"", "-1", "-a");
        Check.shows(";\"a\"", "-1", "a");
        Check.shows(";;", "-1", "");
        Check.shows("\"a;b\"\\;_;\\\"\"\"", "1", "a;b; \"");
        Check.shows("\\\\\\_\\0", "1", "\\_0");
    }
}
