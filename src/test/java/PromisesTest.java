/** The sentences under the headings of the promises, a test for each; those of the terms have tests of their own. */
public final class PromisesTest {
    private static final int BAD = CellFormatter.BAD;
    private static final int NOCODE = CellFormatter.NOCODE;
    private static final int NOTSHOWN = CellFormatter.NOTSHOWN;
    private static final int MOST_CALLS = 512;
    private static final long MOST_UNITS = 1000000000000000L;
    private static final int LAST_1900 = 2958465;
    private static final int LAST_1904 = 2957003;

    public static void main(String[] args) {
        lastOfTheCalls();
        newObject();
        feedAdds();
        feedRefuses();
        feedRefusesWhenFull();
        erase();
        compileAnswersSections();
        compileForgetsTheOlderCode();
        compileTellsWhereNoTokenBegins();
        compileTellsTooManySections();
        compileTellsTheSectionNotWellMade();
        failedCompileLeavesNothing();
        sections();
        kind();
        kindOfNone();
        calendar();
        showAnswersTheLength();
        showRefusesInOrder();
        refusedShowLeavesNothing();
        charAt();
        charAtNone();
        section();
        sectionOfNone();
        shownStays();
        dateParts();
        dateOfNoSerial();
        dateOfNoPart();
        serial();
        serialOfTheDayThatNeverWas();
        serialOfNoDay();
        Check.end();
    }

    private static void lastOfTheCalls() {
        Check.sentence("1 to 12", "An object is used for at most 512 calls after it has been made");
        CellFormatter x = Check.compiled("0".repeat(40));
        int calls = 41;
        for (; calls < MOST_CALLS - 1; calls += 2) {
            Check.due("call " + calls, x.show(calls * 1000000L), 40);
            Check.due("call " + (calls + 1), x.charAt(39), '0' + calls % 10);
        }
        Check.due("the last call", x.section(), 0);
    }

    private static void newObject() {
        Check.sentence("1", "An empty code, not compiled; the calendar 1900; nothing shown.");
        CellFormatter x = new CellFormatter();
        Check.due("not compiled: sections", x.sections(), 0);
        Check.due("not compiled: kind", x.kind(0), BAD);
        Check.due("not compiled: show", x.show(0), NOCODE);
        CellFormatter y = new CellFormatter();
        Check.due("nothing shown: section", y.section(), BAD);
        Check.due("nothing shown: charAt", y.charAt(0), 0);
        CellFormatter z = new CellFormatter();
        Check.due("an empty code", z.compile(), 1);
        Check.due("an empty code is plain", z.kind(0), 0);
        Check.due("an empty code shows nothing of 0", Check.shown(z, 0), "");
        CellFormatter w = new CellFormatter();
        Check.due("1900: the first serial", w.date(1, 0), 1900);
        Check.due("1900: no serial 0", w.date(0, 0), BAD);
        Check.due("1900: the day that never was", w.serial(1900, 2, 29), 60);
    }

    private static void feedAdds() {
        Check.sentence("2", "Adds a character to the code (what is compiled stays).");
        CellFormatter x = Check.compiled("0;\"a\"");
        Check.feedAll(x, ";yy");
        Check.due("sections stay", x.sections(), 2);
        Check.due("kind stays", x.kind(2), BAD);
        Check.due("literals stay", Check.shown(x, -1), "a");
        Check.due("the added ones are compiled", x.compile(), 3);
        Check.due("the last one is there", x.kind(2), 2);
    }

    private static void feedRefuses() {
        Check.sentence("2", "False when c is not 32 .. 126 or it has 40.");
        for (int c = 0; c <= 0xffff; c++) {
            CellFormatter x = new CellFormatter();
            Check.due("feed " + c, x.feed((char) c), c >= 32 && c <= 126);
        }
        int[] refused = {0, 31, 127, 256 + '0', 0xffff};
        CellFormatter x = new CellFormatter();
        for (int c : refused) {
            Check.due("feed " + c, x.feed((char) c), false);
        }
        Check.due("a refused one is not in the code", x.compile(), 1);
        Check.feedAll(x, "~");
        x.feed((char) 127);
        Check.feedAll(x, " ");
        x.compile();
        Check.due("nor between others", Check.shown(x, 0), "~ ");
    }

    private static void feedRefusesWhenFull() {
        Check.sentence("2", "False when c is not 32 .. 126 or it has 40.");
        CellFormatter x = new CellFormatter();
        x.feed((char) 31);
        x.feed((char) 127);
        for (int i = 0; i < 39; i++) {
            Check.due("feed number " + i, x.feed('0'), true);
        }
        Check.due("feed of the last one", x.feed('0'), true);
        Check.due("feed of one more", x.feed('-'), false);
        Check.due("feed of a wrong one when full", x.feed((char) 31), false);
        Check.due("a full code", x.compile(), 1);
        Check.due("all that were taken", Check.shown(x, 1000000), "0".repeat(39) + "1");
        Check.due("full after compiling too", x.feed('0'), false);
        x.erase();
        Check.due("room again", x.feed('0'), true);
    }

    private static void erase() {
        Check.sentence("3", "The code is empty (what is compiled stays).");
        CellFormatter x = Check.compiled("0;\"a\";\"b\"");
        x.erase();
        Check.due("sections stay", x.sections(), 3);
        Check.due("kind stays", x.kind(0), 1);
        Check.due("literals stay", Check.shown(x, 0), "b");
        Check.feedAll(x, "yyyyxxxxxxx");
        Check.due("literals stay when fed over", Check.shown(x, -1), "a");
        x.erase();
        Check.due("erased code compiles as an empty one", x.compile(), 1);
        Check.due("an empty code is plain", x.kind(0), 0);
        Check.due("compile of a shorter one", Check.recompile(x, "0"), 1);
        Check.due("nothing of the longer one", Check.shown(x, 0), "0");
        CellFormatter y = new CellFormatter();
        y.erase();
        y.erase();
        Check.due("erase of nothing", y.compile(), 1);
        Check.feedAll(y, "0".repeat(40));
        y.erase();
        Check.feedAll(y, "#".repeat(40));
        Check.due("forty once more", y.compile(), 1);
        Check.due("nothing of the first forty", Check.shown(y, 0), "");
    }

    private static void compileAnswersSections() {
        Check.sentence("4", "Compiles the code. Answers the number of its sections.");
        Check.compiles("", 1);
        Check.compiles("0", 1);
        Check.compiles(";", 2);
        Check.compiles("0;0", 2);
        Check.compiles(";;", 3);
        Check.compiles("0;0;0", 3);
        CellFormatter x = Check.compiled("0");
        Check.due("compile again", x.compile(), 1);
        Check.feedAll(x, ";0");
        Check.due("compile of more", x.compile(), 2);
    }

    private static void compileForgetsTheOlderCode() {
        Check.sentence("4", "Compiles the code. Answers the number of its sections.");
        String[] codes = {"0,0,%;0;0", "0", "0.00E+00", "[>1]#,;yy", "yyyy AM/PM", "h", "\"a\"", "0;.", "\"abcdefgh\"[",
            "0,", ".0", "m:s"};
        for (String older : codes) {
            for (String code : codes) {
                CellFormatter x = new CellFormatter();
                Check.recompile(x, older);
                CellFormatter y = new CellFormatter();
                String what = code + " behind " + older;
                Check.due("compile of " + what, Check.recompile(x, code), Check.recompile(y, code));
                Check.due("sections of " + what, x.sections(), y.sections());
                Check.due("kind of " + what, x.kind(0), y.kind(0));
                for (long units : new long[] {-1234500000L, 0, 750000, 1234567890}) {
                    Check.due("show of " + what, x.show(units), y.show(units));
                    Check.due("text of " + what, Check.text(x), Check.text(y));
                }
            }
        }
    }

    private static void compileTellsWhereNoTokenBegins() {
        Check.sentence("4",
            "when, from the left, a place is met where no token and no semicolon begins, -100 - that place (from 0)");
        Check.fault("x", 0);
        Check.fault("0x", 1);
        Check.fault("0".repeat(39) + "x", 39);
        Check.fault("0" + "x".repeat(39), 1);
        Check.fault("0\"abc", 1);
        Check.fault("\"a\"\"", 3);
        Check.fault("0 yyyyy", 2);
        Check.fault("\";;\";;[;]", 6);
        Check.fault(";;;;x", 4);
        Check.fault(".;0;x", 4);
        Check.fault(".;.;.;.;x", 8);
    }

    private static void compileTellsTooManySections() {
        Check.sentence("4", "else, when there are more than three sections, -200");
        Check.due("three", Check.compile("0;0;0"), 3);
        Check.due("four", Check.compile("0;0;0;0"), -200);
        Check.due("four empty ones", Check.compile(";;;"), -200);
        Check.due("as many as there can be", Check.compile(";".repeat(40)), -200);
        Check.due("none of four well made", Check.compile(".;.;.;."), -200);
        Check.due("the fourth not well made", Check.compile("0;0;0;."), -200);
    }

    private static void compileTellsTheSectionNotWellMade() {
        Check.sentence("4", "else -201 - s for the first section s (0 the first) that is not well made");
        Check.illMade(".", 0);
        Check.illMade(".;0;0", 0);
        Check.illMade("0;.", 1);
        Check.illMade("0;.;0", 1);
        Check.illMade("0;0;.", 2);
        Check.illMade("0;.;.", 1);
        Check.illMade(".;0;.", 0);
        Check.illMade(".;.;.", 0);
    }

    private static void failedCompileLeavesNothing() {
        Check.sentence("4", "Otherwise nothing is compiled from now on");
        String[] bad = {"x", "0;0;0;0", "0;0.0.0"};
        int[] answers = {-100, -200, -202};
        for (int i = 0; i < bad.length; i++) {
            CellFormatter x = Check.compiled("0;(0)");
            Check.due("compile of " + bad[i], Check.recompile(x, bad[i]), answers[i]);
            Check.due("sections after it", x.sections(), 0);
            Check.due("kind after it", x.kind(0), BAD);
            Check.due("show after it", x.show(0), NOCODE);
            Check.due("compile of it again", x.compile(), answers[i]);
            Check.due("compile after a failure", Check.recompile(x, "(0)"), 1);
            Check.due("sections again", x.sections(), 1);
            Check.due("show again", Check.shown(x, 0), "(0)");
        }
    }

    private static void sections() {
        Check.sentence("5", "The number of sections compiled; 0 when nothing is.");
        CellFormatter x = new CellFormatter();
        Check.due("new", x.sections(), 0);
        Check.feedAll(x, "0;0");
        Check.due("fed, not compiled", x.sections(), 0);
        x.compile();
        Check.due("two", x.sections(), 2);
        Check.recompile(x, ";;");
        Check.due("three", x.sections(), 3);
        Check.recompile(x, "");
        Check.due("one, and empty", x.sections(), 1);
        Check.recompile(x, ";;;");
        Check.due("after a failure", x.sections(), 0);
    }

    private static void kind() {
        Check.sentence("6", "The kind of section s: 0 PLAIN, 1 NUMBER, 2 DATE");
        CellFormatter x = Check.compiled("\"a\";?;AM/PM");
        Check.due("plain", x.kind(0), 0);
        Check.due("number", x.kind(1), 1);
        Check.due("date", x.kind(2), 2);
        Check.recompile(x, "d;;#");
        Check.due("date", x.kind(0), 2);
        Check.due("plain", x.kind(1), 0);
        Check.due("number", x.kind(2), 1);
    }

    private static void kindOfNone() {
        Check.sentence("6", "BAD when there is none.");
        CellFormatter x = Check.compiled("0;0;0");
        int[] none = {3, 4, -1, Integer.MIN_VALUE, Integer.MAX_VALUE};
        for (int s : none) {
            Check.due("kind of " + s, x.kind(s), BAD);
        }
        Check.recompile(x, "0");
        Check.due("one section: kind of 0", x.kind(0), 1);
        Check.due("one section: kind of 1", x.kind(1), BAD);
        Check.recompile(x, "x");
        Check.due("nothing compiled: kind of 0", x.kind(0), BAD);
        Check.due("new: kind of 0", new CellFormatter().kind(0), BAD);
    }

    private static void calendar() {
        Check.sentence("7", "The calendar is 1904 from now on, or else 1900.");
        CellFormatter x = Check.compiled("yyyy-mm-dd ddd");
        Check.due("1900 at first", Check.shown(x, 1000000), "1900-01-01 Sun");
        x.calendar(true);
        Check.due("what was shown stays", Check.text(x), "1900-01-01 Sun");
        Check.due("1904: show", Check.shown(x, 1000000), "1904-01-02 Sat");
        Check.due("1904: date", x.date(0, 0), 1904);
        Check.due("1904: serial", x.serial(1904, 1, 1), 0);
        x.calendar(true);
        Check.due("1904 again", x.date(0, 0), 1904);
        Check.due("the code stays compiled", x.sections(), 1);
        x.calendar(false);
        Check.due("1900 again: show", Check.shown(x, 0), null);
        Check.due("1900 again: date", x.date(0, 0), BAD);
        Check.due("1900 again: serial", x.serial(1904, 1, 1), 1462);
        x.calendar(true);
        Check.recompile(x, "yyyy");
        Check.due("compile leaves it", Check.shown(x, 0), "1904");
    }

    private static void showAnswersTheLength() {
        Check.sentence("8", "Shows a value; answers the number of characters.");
        Check.due("none", Check.compiled("").show(0), 0);
        Check.due("none of a place", Check.compiled("#").show(0), 0);
        Check.due("one", Check.compiled("0").show(0), 1);
        Check.due("more than before", Check.compiled("0").show(MOST_UNITS), 10);
        CellFormatter x = Check.compiled("[s]".repeat(13) + "-");
        Check.due("the longest", Check.shown(x, LAST_1900 * 1000000L), "255611376000".repeat(13) + "-");
        Check.due("a shorter one behind it", Check.shown(x, 0), "0".repeat(13) + "-");
    }

    private static void showRefusesInOrder() {
        Check.sentence("8",
            "NOCODE when nothing is compiled; else BAD when units is not from -10^15 to 10^15; else NOTSHOWN.");
        long[] outside = {MOST_UNITS + 1, -MOST_UNITS - 1, Long.MAX_VALUE, Long.MIN_VALUE};
        for (long units : outside) {
            Check.due("no code: show " + units, new CellFormatter().show(units), NOCODE);
            Check.due("number: show " + units, Check.compiled("0").show(units), BAD);
            Check.due("no section for it: show " + units, Check.compiled("[=0]0").show(units), BAD);
            Check.due("date: show " + units, Check.compiled("yy").show(units), BAD);
        }
        Check.due("greatest", Check.compiled("0").show(MOST_UNITS), 10);
        Check.due("least", Check.compiled("0").show(-MOST_UNITS), 11);
        Check.due("greatest without a section", Check.compiled("[=0]0").show(MOST_UNITS), NOTSHOWN);
        Check.due("least without a section", Check.compiled("[=0]0").show(-MOST_UNITS), NOTSHOWN);
        Check.due("greatest as a date", Check.compiled("yy").show(MOST_UNITS), NOTSHOWN);
        Check.due("least as a date", Check.compiled("yy").show(-MOST_UNITS), NOTSHOWN);
    }

    private static void refusedShowLeavesNothing() {
        Check.sentence("8", "In these three cases nothing is shown: there are no characters and no section.");
        CellFormatter x = Check.compiled("[>0]0");
        Check.due("shown before", Check.shown(x, 5000000), "5");
        Check.due("too great", x.show(MOST_UNITS + 1), BAD);
        nothingShown(x);
        Check.due("shown before", Check.shown(x, 5000000), "5");
        Check.due("not shown", x.show(0), NOTSHOWN);
        nothingShown(x);
        Check.due("shown before", Check.shown(x, 5000000), "5");
        Check.recompile(x, "x");
        Check.due("no code", x.show(5000000), NOCODE);
        nothingShown(x);
        CellFormatter y = Check.compiled("\"long\" d");
        Check.due("shown before", Check.shown(y, 1000000), "long 1");
        Check.due("no serial", y.show(0), NOTSHOWN);
        nothingShown(y);
    }

    private static void nothingShown(CellFormatter x) {
        Check.due("no characters", x.charAt(0), 0);
        Check.due("no section", x.section(), BAD);
    }

    private static void charAt() {
        Check.sentence("9", "Character i (0 the first) of what was shown last");
        CellFormatter x = Check.compiled("\"ab\"0");
        x.show(1000000);
        x.show(2000000);
        Check.due("the first", x.charAt(0), 'a');
        Check.due("the second", x.charAt(1), 'b');
        Check.due("the last", x.charAt(2), '2');
        Check.due("the first again", x.charAt(0), 'a');
    }

    private static void charAtNone() {
        Check.sentence("9", "0 when there is none.");
        CellFormatter x = Check.compiled("\"ab\"");
        Check.due("before show", x.charAt(0), 0);
        x.show(0);
        int[] none = {2, 3, -1, 40, 255, 256, Integer.MIN_VALUE, Integer.MAX_VALUE};
        for (int i : none) {
            Check.due("charAt(" + i + ")", x.charAt(i), 0);
        }
        Check.recompile(x, "0;;");
        x.show(7000000);
        Check.due("the newer text", x.charAt(0), '7');
        Check.due("not the rest of the older one", x.charAt(1), 0);
        Check.due("shown with no characters", x.show(0), 0);
        Check.due("not the older one", x.charAt(0), 0);
        CellFormatter y = Check.compiled("[s]".repeat(13) + "-");
        Check.due("the longest text", y.show(LAST_1900 * 1000000L), 157);
        Check.due("its last character", y.charAt(156), '-');
        Check.due("behind it", y.charAt(157), 0);
    }

    private static void section() {
        Check.sentence("10", "The section by which the latest value was shown");
        CellFormatter x = Check.compiled("0;(0);\"\"");
        x.show(1);
        Check.due("the first", x.section(), 0);
        x.show(-1);
        Check.due("the second", x.section(), 1);
        x.show(0);
        Check.due("the third, with no characters", x.section(), 2);
        x.show(1);
        Check.due("the first again", x.section(), 0);
        CellFormatter y = Check.compiled("[>5]0;[<-5]0;0");
        y.show(-6000000);
        Check.due("by condition", y.section(), 1);
        y.show(-5000000);
        Check.due("by no condition", y.section(), 2);
    }

    private static void sectionOfNone() {
        Check.sentence("10", "BAD when nothing is shown.");
        CellFormatter x = Check.compiled("[>0]0;[<0]yy");
        Check.due("before show", x.section(), BAD);
        x.show(1);
        Check.due("shown", x.section(), 0);
        x.show(-1);
        Check.due("date of a negative value", x.section(), BAD);
        x.show(1);
        x.show(0);
        Check.due("no condition holds", x.section(), BAD);
        x.show(1);
        x.show(MOST_UNITS + 1);
        Check.due("too great", x.section(), BAD);
        x.show(1);
        Check.recompile(x, "x");
        x.show(1);
        Check.due("no code", x.section(), BAD);
    }

    private static void shownStays() {
        Check.sentence("9 and 10", "(What was shown stays when the code changes.)");
        CellFormatter x = Check.compiled("0;(0)");
        Check.due("shown", Check.shown(x, -7000000), "(7)");
        x.erase();
        stays(x, "erase");
        Check.feedAll(x, "yyyy;yyyy;\"abcdef\"");
        stays(x, "feed");
        Check.due("compile", x.compile(), 3);
        stays(x, "compile");
        String[] bad = {"x", ";;;", ".", "0;0;."};
        for (String code : bad) {
            Check.recompile(x, code);
            stays(x, "compile of " + code);
        }
        x.calendar(true);
        x.date(1, 0);
        x.serial(2000, 1, 1);
        stays(x, "calendar, date and serial");
    }

    private static void stays(CellFormatter x, String after) {
        Check.due("text after " + after, Check.text(x), "(7)");
        Check.due("section after " + after, x.section(), 1);
    }

    private static void dateOf(CellFormatter x, int serial, int year, int month, int day, int weekday) {
        int[] want = {year, month, day, weekday};
        for (int part = 0; part < 4; part++) {
            Check.due("date(" + serial + ", " + part + ")", x.date(serial, part), want[part]);
        }
    }

    private static void dateParts() {
        Check.sentence("11", "part 0 the year, 1 the month 1 .. 12, 2 the day of the month, 3 the weekday 1 .. 7.");
        CellFormatter x = new CellFormatter();
        dateOf(x, 1, 1900, 1, 1, 1);
        dateOf(x, 7, 1900, 1, 7, 7);
        dateOf(x, 8, 1900, 1, 8, 1);
        dateOf(x, 366, 1900, 12, 31, 2);
        dateOf(x, 367, 1901, 1, 1, 3);
        dateOf(x, LAST_1900, 9999, 12, 31, 6);
        x.calendar(true);
        dateOf(x, 0, 1904, 1, 1, 6);
        dateOf(x, 1, 1904, 1, 2, 7);
        dateOf(x, 2, 1904, 1, 3, 1);
        dateOf(x, 365, 1904, 12, 31, 7);
        dateOf(x, 366, 1905, 1, 1, 1);
        dateOf(x, LAST_1904, 9999, 12, 31, 6);
    }

    private static void dateOfNoSerial() {
        Check.sentence("11", "BAD when there is no such serial or part is not 0 .. 3.");
        CellFormatter x = new CellFormatter();
        int[] wrong1900 = {0, -1, LAST_1900 + 1, Integer.MIN_VALUE, Integer.MAX_VALUE};
        int[] wrong1904 = {-1, LAST_1904 + 1, LAST_1900, Integer.MIN_VALUE, Integer.MAX_VALUE};
        for (int part = 0; part < 4; part++) {
            x.calendar(false);
            for (int serial : wrong1900) {
                Check.due("1900: date(" + serial + ", " + part + ")", x.date(serial, part), BAD);
            }
            x.calendar(true);
            for (int serial : wrong1904) {
                Check.due("1904: date(" + serial + ", " + part + ")", x.date(serial, part), BAD);
            }
        }
    }

    private static void dateOfNoPart() {
        Check.sentence("11", "BAD when there is no such serial or part is not 0 .. 3.");
        CellFormatter x = new CellFormatter();
        int[] wrong = {-1, 4, Integer.MIN_VALUE, Integer.MAX_VALUE};
        for (int part : wrong) {
            Check.due("date(1, " + part + ")", x.date(1, part), BAD);
            Check.due("date(0, " + part + ")", x.date(0, part), BAD);
        }
    }

    private static void serial() {
        Check.sentence("12", "The serial of a day in the calendar as it is");
        CellFormatter x = new CellFormatter();
        Check.due("1900: the first", x.serial(1900, 1, 1), 1);
        Check.due("1900: before the day that never was", x.serial(1900, 2, 28), 59);
        Check.due("1900: behind it", x.serial(1900, 3, 1), 61);
        Check.due("1900: 29 February 2000", x.serial(2000, 2, 29), 36585);
        Check.due("1900: the last", x.serial(9999, 12, 31), LAST_1900);
        x.calendar(true);
        Check.due("1904: the first", x.serial(1904, 1, 1), 0);
        Check.due("1904: 29 February 1904", x.serial(1904, 2, 29), 59);
        Check.due("1904: 1 March 1904", x.serial(1904, 3, 1), 60);
        Check.due("1904: the last", x.serial(9999, 12, 31), LAST_1904);
    }

    private static void serialOfTheDayThatNeverWas() {
        Check.sentence("12", "(in 1900 also of 29 February 1900)");
        CellFormatter x = new CellFormatter();
        Check.due("1900", x.serial(1900, 2, 29), 60);
        Check.due("no other day that never was", x.serial(1900, 2, 30), BAD);
        Check.due("no such day in 2100", x.serial(2100, 2, 29), BAD);
        x.calendar(true);
        Check.due("1904", x.serial(1900, 2, 29), BAD);
        x.calendar(false);
        Check.due("1900 again", x.serial(1900, 2, 29), 60);
    }

    private static void serialOfNoDay() {
        Check.sentence("12", "BAD when there is no such day in it.");
        int[][] wrong = {
            {1899, 12, 31}, {10000, 1, 1}, {0, 1, 1}, {-1904, 1, 1}, {0, 0, 0}, {2000, 0, 1}, {2000, 13, 1},
            {2000, -1, 1}, {2000, 1, 0}, {2000, 1, -1}, {2000, 1, 32}, {2000, 2, 30}, {2000, 4, 31}, {2000, 6, 31},
            {2000, 9, 31}, {2000, 11, 31}, {2000, 12, 32}, {2001, 2, 29}, {2100, 2, 29}, {1904, 2, 30}, {9999, 12, 32},
            {Integer.MIN_VALUE, 1, 1}, {Integer.MAX_VALUE, 1, 1}, {2000, Integer.MIN_VALUE, 1},
            {2000, Integer.MAX_VALUE, 1}, {2000, 1, Integer.MIN_VALUE}, {2000, 1, Integer.MAX_VALUE}
        };
        CellFormatter x = new CellFormatter();
        for (int[] day : wrong) {
            String name = day[0] + " " + day[1] + " " + day[2];
            x.calendar(false);
            Check.due("1900: " + name, x.serial(day[0], day[1], day[2]), BAD);
            x.calendar(true);
            Check.due("1904: " + name, x.serial(day[0], day[1], day[2]), BAD);
        }
        Check.due("1904: 31 December 1903", x.serial(1903, 12, 31), BAD);
        Check.due("1904: 1 January 1900", x.serial(1900, 1, 1), BAD);
        x.calendar(false);
        Check.due("1900: 31 December 1903", x.serial(1903, 12, 31), 1461);
    }
}
