/** What the tests share: counting wrong answers, and feeding and reading whole texts. */
final class Check {
    private static final int MOST_LINES = 50;
    private static int wrong = 0;
    private static int made = 0;
    private static int sentences = 0;
    private static String held = "";

    private Check() {
    }

    /** The answers from here on hold this sentence of the document; a wrong one is told with it. */
    static void sentence(String promises, String words) {
        sentences++;
        held = "[promise " + promises + ": " + words + "] ";
    }

    /** Prints the first wrong answers only, since one fault may give thousands. */
    private static void report(String line) {
        wrong++;
        if (wrong <= MOST_LINES) {
            System.out.println(held + line);
        }
    }

    static void due(String what, long got, long want) {
        made++;
        if (got != want) {
            report(what + " answered " + got + ", due is " + want);
        }
    }

    static void due(String what, String got, String want) {
        made++;
        if (!java.util.Objects.equals(got, want)) {
            report(what + " answered <" + got + ">, due is <" + want + ">");
        }
    }

    static void due(String what, boolean got, boolean want) {
        due(what, got ? 1 : 0, want ? 1 : 0);
    }

    static void feedAll(CellFormatter x, String code) {
        for (char c : code.toCharArray()) {
            due("feed of " + code, x.feed(c), true);
        }
    }

    /** Puts another code in the place of the one that an object has; answers what compile answers. */
    static int recompile(CellFormatter x, String code) {
        x.erase();
        feedAll(x, code);
        return x.compile();
    }

    /** An object with that code, compiled. */
    static CellFormatter compiled(String code) {
        CellFormatter x = new CellFormatter();
        feedAll(x, code);
        int answer = x.compile();
        due("compile of " + code + " succeeds", answer >= 1, true);
        return x;
    }

    /** What compile answers for that code on a new object. */
    static int compile(String code) {
        return recompile(new CellFormatter(), code);
    }

    static void compiles(String code, int sections) {
        due("compile of " + code, compile(code), sections);
    }

    /** No token begins at that place of the code. */
    static void fault(String code, int place) {
        due("compile of " + code, compile(code), -100 - place);
    }

    /** That section is the first of the code that is not well made. */
    static void illMade(String code, int s) {
        due("compile of " + code, compile(code), -201 - s);
    }

    /** The characters shown last. */
    static String text(CellFormatter x) {
        StringBuilder text = new StringBuilder();
        for (char c = x.charAt(0); c != 0; c = x.charAt(text.length())) {
            text.append(c);
        }
        return text.toString();
    }

    /** What show gives: the text, or null when the answer says that the value is not shown. */
    static String shown(CellFormatter x, long units) {
        int length = x.show(units);
        String text = text(x);
        if (length == CellFormatter.NOTSHOWN) {
            due("text when not shown", text, "");
            due("section when not shown", x.section(), CellFormatter.BAD);
            return null;
        }
        due("length of <" + text + ">", length, text.length());
        return text;
    }

    /** The value of a decimal number in units. */
    static long units(String number) {
        return new java.math.BigDecimal(number).movePointRight(6).longValueExact();
    }

    static void shows(String code, String number, String want) {
        due("\"" + code + "\" of " + number, shown(compiled(code), units(number)), want);
    }

    static void notShown(String code, String number) {
        shows(code, number, null);
    }

    /** As shows, in the calendar 1904. */
    static void shows1904(String code, String number, String want) {
        CellFormatter x = compiled(code);
        x.calendar(true);
        due("1904: \"" + code + "\" of " + number, shown(x, units(number)), want);
    }

    static void notShown1904(String code, String number) {
        shows1904(code, number, null);
    }

    static void end() {
        String of = sentences == 0 ? "" : " for " + sentences + " sentences";
        System.out.println(made + " answers" + of + ", " + wrong + " of them not as due");
        if (wrong != 0) {
            System.exit(1);
        }
    }
}
