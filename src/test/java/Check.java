/** What the tests share: counting wrong answers, and feeding and reading whole texts. */
final class Check {
    private static final int MOST_LINES = 50;
    private static int wrong = 0;
    private static int made = 0;

    private Check() {
    }

    /** Prints the first wrong answers only, since one fault may give thousands. */
    private static void report(String line) {
        wrong++;
        if (wrong <= MOST_LINES) {
            System.out.println(line);
        }
    }

    static void due(String what, long got, long want) {
        made++;
        if (got != want) {
            report(what + " answered " + got + ", due is " + want);
        }
    }

    static void due(String what, String got, String want) {
        made++;
        if (!java.util.Objects.equals(got, want)) {
            report(what + " answered <" + got + ">, due is <" + want + ">");
        }
    }

    static void due(String what, boolean got, boolean want) {
        due(what, got ? 1 : 0, want ? 1 : 0);
    }

    static void feedAll(CellFormatter x, String code) {
        for (char c : code.toCharArray()) {
            due("feed of " + code, x.feed(c), true);
        }
    }

    /** An object with that code, compiled. */
    static CellFormatter compiled(String code) {
        CellFormatter x = new CellFormatter();
        feedAll(x, code);
        int answer = x.compile();
        due("compile of " + code + " succeeds", answer >= 1, true);
        return x;
    }

    /** What compile answers for that code on a new object. */
    static int compile(String code) {
        CellFormatter x = new CellFormatter();
        feedAll(x, code);
        return x.compile();
    }

    /** The characters shown last. */
    static String text(CellFormatter x) {
        StringBuilder text = new StringBuilder();
        for (int i = 0; x.charAt(i) != 0; i++) {
            text.append(x.charAt(i));
        }
        return text.toString();
    }

    /** What show gives: the text, or null when the answer says that the value is not shown. */
    static String shown(CellFormatter x, long units) {
        int length = x.show(units);
        String text = text(x);
        if (length == CellFormatter.NOTSHOWN) {
            due("text when not shown", text, "");
            due("section when not shown", x.section(), CellFormatter.BAD);
            return null;
        }
        due("length of <" + text + ">", length, text.length());
        return text;
    }

    /** The value of a decimal number in units. */
    static long units(String number) {
        return new java.math.BigDecimal(number).movePointRight(6).longValueExact();
    }

    static void shows(String code, String number, String want) {
        due("\"" + code + "\" of " + number, shown(compiled(code), units(number)), want);
    }

    static void end() {
        System.out.println(made + " answers, " + wrong + " of them not as due");
        if (wrong != 0) {
            System.exit(1);
        }
    }
}
