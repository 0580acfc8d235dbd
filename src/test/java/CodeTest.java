/** Promises 1 to 6: a new object, feed, erase, compile, sections, kind. */
public final class CodeTest {
    public static void main(String[] args) {
        newObject();
        feed();
        erase();
        compileAnswersSections();
        compileFindsWhereNoTokenBegins();
        compileCountsSections();
        compileRefusesConditions();
        compileRefusesPlainAndDate();
        compileRefusesNumbers();
        compileChecksCommas();
        compileTellsTheFirstFault();
        failedCompileLeavesNothing();
        kind();
        Check.end();
    }

    private static void newObject() {
        CellFormatter x = new CellFormatter();
        Check.due("new: sections", x.sections(), 0);
        Check.due("new: kind", x.kind(0), CellFormatter.BAD);
        Check.due("new: section", x.section(), CellFormatter.BAD);
        Check.due("new: charAt", x.charAt(0), 0);
        Check.due("new: show", x.show(0), CellFormatter.NOCODE);
        Check.due("new: calendar 1900", x.date(1, 0), 1900);
        Check.due("new: empty code", x.compile(), 1);
        Check.due("new: shows nothing of 0", x.show(0), 0);
    }

    private static void feed() {
        for (int c = 0; c <= 0xffff; c++) {
            CellFormatter x = new CellFormatter();
            Check.due("feed " + c, x.feed((char) c), c >= 32 && c <= 126);
        }
        CellFormatter x = new CellFormatter();
        x.feed((char) 31);
        x.feed((char) 127);
        for (int i = 0; i < 40; i++) {
            Check.due("feed number " + i, x.feed('0'), true);
        }
        Check.due("feed number 40", x.feed('0'), false);
        Check.due("feed of a wrong one when full", x.feed((char) 31), false);
        x.compile();
        Check.due("all forty places", x.show(1000000), 40);
        x.erase();
        Check.due("room again", x.feed('0'), true);
        Check.due("what is compiled stays when fed", x.show(0), 40);
        Check.due("sections stay", x.sections(), 1);
    }

    private static void erase() {
        CellFormatter x = Check.compiled("0;\"a\";\"b\"");
        x.erase();
        Check.due("erase: sections stay", x.sections(), 3);
        Check.due("erase: kind stays", x.kind(0), 1);
        Check.due("erase: literals stay", Check.shown(x, 0), "b");
        Check.feedAll(x, "yyyyxxxxxxx");
        Check.due("fed over: literals stay", Check.shown(x, -1), "a");
        x.erase();
        Check.due("erased code compiles as an empty one", x.compile(), 1);
        Check.due("empty code is plain", x.kind(0), 0);
        CellFormatter y = new CellFormatter();
        y.erase();
        Check.due("erase of nothing", y.compile(), 1);
    }

    private static void compileAnswersSections() {
        Check.due("empty", Check.compile(""), 1);
        Check.due(";", Check.compile(";"), 2);
        Check.due(";;", Check.compile(";;"), 3);
        Check.due("0;0", Check.compile("0;0"), 2);
        Check.due("semicolons as literals", Check.compile("\";\"\\;_;;0"), 2);
        Check.due("all literals", Check.compile(" !$&'()+-/:=^{}~"), 1);
        Check.due("all fields", Check.compile("yy yyyy m mm mmm d dd ddd h hh s ss"), 1);
        Check.due("meridiem and elapsed", Check.compile("AM/PM[h][m][s]"), 1);
        Check.due("conditions", Check.compile("[<1]0;[<=22]0;[>333]0"), 3);
        Check.due("conditions", Check.compile("[>=4444]0;[=55555]0;[<>666666]0"), 3);
        Check.due("negative condition", Check.compile("[<>-999999]0"), 1);
        CellFormatter x = Check.compiled("0");
        Check.feedAll(x, ";0");
        Check.due("sections before compiling again", x.sections(), 1);
        Check.due("compile again", x.compile(), 2);
        Check.due("sections after it", x.sections(), 2);
    }

    private static void fault(String code, int place) {
        Check.due("compile of " + code, Check.compile(code), -100 - place);
    }

    private static void compileFindsWhereNoTokenBegins() {
        for (char c = 32; c <= 126; c++) {
            boolean stands = " !$&'()+-/:=^{}~0;mdhs".indexOf(c) >= 0;
            boolean illMade = "#?.,%".indexOf(c) >= 0;
            int want = stands ? (c == ';' ? 2 : 1) : illMade ? ("#?".indexOf(c) >= 0 ? 1 : -201) : -100;
            Check.due("compile of " + c, Check.compile(String.valueOf(c)), want);
        }
        fault("0x", 1);
        fault("0\"abc", 1);
        fault("\"", 0);
        fault("\"a\"\"", 3);
        fault("0\\", 1);
        fault("0_", 1);
        fault("E", 0);
        fault("0E0", 1);
        fault("0e+0", 1);
        fault("yyy", 0);
        fault("0 yyyyy", 2);
        fault("y", 0);
        fault("mmmm", 0);
        fault("dddd", 0);
        fault("hhh", 0);
        fault("sss", 0);
        fault("M", 0);
        fault("AM/P", 0);
        fault("AM", 0);
        fault("am/pm", 0);
        fault("h AM/AM", 2);
        fault("[", 0);
        fault("[]", 0);
        fault("[hh]", 0);
        fault("[h", 0);
        fault("[d]", 0);
        fault("[y]", 0);
        fault("]", 0);
        fault("0<", 1);
        fault("[<]0", 0);
        fault("[<-]0", 0);
        fault("[<--1]0", 0);
        fault("[<+1]0", 0);
        fault("[1]0", 0);
        fault("[==1]0", 0);
        fault("[><1]0", 0);
        fault("[=<1]0", 0);
        fault("[<<1]0", 0);
        fault("[<1.5]0", 0);
        fault("[<1", 0);
        fault("[< 1]", 0);
        fault("[<1234567]0", 0);
        fault("[<-1234567]0", 0);
        fault("0;;;;x", 5);
        fault("\";;\";;[;]", 6);
    }

    private static void compileCountsSections() {
        Check.due(";;;", Check.compile(";;;"), -200);
        Check.due("0;0;0;0", Check.compile("0;0;0;0"), -200);
        Check.due("forty semicolons", Check.compile(";".repeat(40)), -200);
        Check.due("more than three before ill made", Check.compile("0.0.0;0;0;0"), -200);
    }

    private static void illMade(String code, int s) {
        Check.due("compile of " + code, Check.compile(code), -201 - s);
    }

    private static void compileRefusesConditions() {
        illMade("0[<1]", 0);
        illMade(" [<1]0", 0);
        illMade("\"\"[<1]0", 0);
        illMade("[<1][<1]0", 0);
        illMade("[<1]0[>1]", 0);
        illMade("yy[<1]", 0);
        Check.due("a condition alone", Check.compile("[<1]"), 1);
        Check.due("a condition and a text", Check.compile("[<1]\"a\";[<1]yy"), 2);
    }

    private static void compileRefusesPlainAndDate() {
        illMade(".", 0);
        illMade("\"a\",", 0);
        illMade("%", 0);
        illMade("E+", 0);
        illMade("E-", 0);
        illMade("yy0", 0);
        illMade("#yy", 0);
        illMade("d.", 0);
        illMade("h,", 0);
        illMade("s%", 0);
        illMade("mE+", 0);
        illMade("[h]0", 0);
        illMade("AM/PM?", 0);
        illMade("yy0E+0", 0);
    }

    private static void compileRefusesNumbers() {
        illMade("0..", 0);
        illMade("0.0.0", 0);
        illMade("0%%%", 0);
        illMade("0E+0E+0", 0);
        illMade("0E+0.", 0);
        illMade("0E+.0", 0);
        illMade("0.0E+0.0", 0);
        illMade("E+0", 0);
        illMade("0E+", 0);
        illMade(".0E+0", 0);
        illMade(".E+0", 0);
        illMade("0E+\"0\"", 0);
        Check.due("0.", Check.compile("0."), 1);
        Check.due(".0", Check.compile(".0"), 1);
        Check.due("%0%", Check.compile("%0%"), 1);
        Check.due("0.E-#", Check.compile("0.E-#"), 1);
        Check.due("0E+0%", Check.compile("0E+0%"), 1);
    }

    private static void compileChecksCommas() {
        illMade(",0", 0);
        illMade(",,#,0", 0);
        illMade(",.0", 0);
        illMade(".,0", 0);
        illMade(".0,", 0);
        illMade("0.,", 0);
        illMade("0.0,", 0);
        illMade("0.0,0", 0);
        illMade("0,.0,", 0);
        illMade("0 ,", 0);
        illMade("0\"\",", 0);
        illMade("0, ,", 0);
        illMade("0%,", 0);
        illMade("0,E+0", 0);
        illMade("0,0E+0", 0);
        illMade("0E+0,0", 0);
        illMade("0E+0,", 0);
        Check.due("0,", Check.compile("0,"), 1);
        Check.due("0,,%", Check.compile("0,,%"), 1);
        Check.due("0,.0", Check.compile("0,.0"), 1);
        Check.due("0 , 0,,.", Check.compile("0 , 0,,."), 1);
        Check.due("0,,0", Check.compile("0,,0"), 1);
    }

    private static void compileTellsTheFirstFault() {
        illMade("0;.;.", 1);
        illMade("0;0;.", 2);
        illMade(".;0;.", 0);
        fault(".;0;x", 4);
    }

    private static void failedCompileLeavesNothing() {
        String[] bad = {"x", "0;0;0;0", "0;0.0.0"};
        int[] answers = {-100, -200, -202};
        for (int i = 0; i < bad.length; i++) {
            CellFormatter x = Check.compiled("0;(0)");
            Check.due("shown before", Check.shown(x, -7000000), "(7)");
            x.erase();
            Check.feedAll(x, bad[i]);
            Check.due("sections before compiling", x.sections(), 2);
            Check.due("compile of " + bad[i], x.compile(), answers[i]);
            Check.due("sections after it", x.sections(), 0);
            Check.due("kind after it", x.kind(0), CellFormatter.BAD);
            Check.due("what was shown stays", Check.text(x), "(7)");
            Check.due("its section stays", x.section(), 1);
            Check.due("show after it", x.show(0), CellFormatter.NOCODE);
            x.erase();
            Check.due("compile after a failure", x.compile(), 1);
            Check.due("sections again", x.sections(), 1);
        }
    }

    private static void kind() {
        CellFormatter x = Check.compiled("\"a\";?;AM/PM");
        Check.due("plain", x.kind(0), 0);
        Check.due("number", x.kind(1), 1);
        Check.due("date", x.kind(2), 2);
        Check.due("kind 3", x.kind(3), CellFormatter.BAD);
        Check.due("kind -1", x.kind(-1), CellFormatter.BAD);
        Check.due("kind least", x.kind(Integer.MIN_VALUE), CellFormatter.BAD);
        Check.due("kind greatest", x.kind(Integer.MAX_VALUE), CellFormatter.BAD);
        String[] dates = {"yy", "yyyy", "m", "mm", "mmm", "d", "dd", "ddd", "h", "hh", "s", "ss", "[h]", "[m]", "[s]"};
        for (String date : dates) {
            Check.due("kind of " + date, Check.compiled(date).kind(0), 2);
        }
        for (String place : new String[] {"0", "#", "?"}) {
            Check.due("kind of " + place, Check.compiled("[<1]" + place).kind(0), 1);
        }
        CellFormatter y = Check.compiled("\"0\"\\0_0\\y");
        Check.due("literals only", y.kind(0), 0);
        Check.due("one section", y.kind(1), CellFormatter.BAD);
    }
}
