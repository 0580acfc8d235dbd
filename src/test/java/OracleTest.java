import java.util.Random;

/** Compares the program with the oracle on many codes and values; the seed is fixed, so every run is the same. */
public final class OracleTest {
    private static final String[] ANY = {"0", "#", "?", ".", ",", "%", "E+", "E-", ";", "\"a;0\"", "\"\"", "\\;", "_0",
        " ", "-", "(", "[<5]", "[>=-10]", "[<>0]", "[=1]", "[h]", "[m]", "[s]", "yy", "yyyy", "m", "mm", "mmm", "d",
        "dd", "ddd", "h", "hh", "s", "ss", "AM/PM", "x", "\"", "[", "E", "mmmm", "yyy", "\\", "]", "<"};
    private static final String[] NUMBER = {"0", "#", "?", "0", "#", "?", "0", ",", "-", "\"b\"", "%", "0", "#", "?"};
    private static final String[] FIELDS = {"[h]", "[m]", "[s]", "yy", "yyyy", "m", "mm", "m", "mm", "mmm", "d", "dd",
        "ddd", "h", "hh", "s", "ss", "AM/PM", " ", ":", "/", "\"x\"", " "};
    private static final String[] CONDITIONS =
        {"", "", "", "[<5]", "[>=-10]", "[<>0]", "[=1]", "[<=1000]", "[>-999999]"};
    private static final int MOST_CODE = 40;

    private final Random random = new Random(20261115);
    private int good = 0;
    private int shown = 0;

    public static void main(String[] args) {
        OracleTest test = new OracleTest();
        for (int i = 0; i < 90000; i++) {
            test.compare(test.rawCode());
            test.compare(test.someSections());
        }
        Check.due("many codes are well made", test.good > 30000, true);
        Check.due("many values are shown", test.shown > 200000, true);
        Check.end();
    }

    private String pick(String[] row) {
        return row[random.nextInt(row.length)];
    }

    private String several(String[] row, int most) {
        StringBuilder text = new StringBuilder();
        for (int n = random.nextInt(most + 1); n > 0; n--) {
            text.append(pick(row));
        }
        return text.toString();
    }

    private String rawCode() {
        return cut(several(ANY, 8));
    }

    private String someSections() {
        StringBuilder code = new StringBuilder(oneSection());
        for (int n = random.nextInt(3); n > 0; n--) {
            code.append(';').append(oneSection());
        }
        return cut(code.toString());
    }

    private String cut(String code) {
        return code.substring(0, Math.min(code.length(), MOST_CODE));
    }

    private String oneSection() {
        String condition = pick(CONDITIONS);
        int shape = random.nextInt(6);
        if (shape == 0) {
            return condition + several(FIELDS, 7);
        }
        if (shape == 1) {
            return condition + "\"t\"" + several(new String[] {" ", "\\y", "(", "_0"}, 3);
        }
        String integer = several(NUMBER, 7);
        if (shape == 2) {
            return condition + integer + several(new String[] {",", "%"}, 3);
        }
        String fraction = several(NUMBER, 5).replace(",", "");
        if (shape == 3) {
            return condition + integer + several(new String[] {","}, 2) + "." + fraction;
        }
        String exponent = (random.nextBoolean() ? "E+" : "E-") + several(NUMBER, 3).replace(",", "");
        return condition + integer.replace(",", "") + (random.nextBoolean() ? "." + fraction : "") + exponent;
    }

    private long value() {
        long sign = random.nextInt(3) == 0 ? -1 : 1;
        switch (random.nextInt(8)) {
            case 0:
                return 0;
            case 1:
                return sign * (long) Math.pow(10, random.nextInt(16));
            case 2:
                return sign * ((long) Math.pow(10, random.nextInt(15) + 1) - 1 - random.nextInt(3));
            case 3:
                return sign * 5 * (long) Math.pow(10, random.nextInt(14));
            case 4:
                return sign * (random.nextInt(100) * 1000000L + random.nextInt(5) * 250000L);
            case 5:
                return random.nextInt(2958467) * 1000000L + random.nextInt(1000000);
            case 6:
                return sign * (Math.floorMod(random.nextLong(), 9995L) * 100 + 50);
            default:
                long most = (long) Math.pow(10, random.nextInt(15) + 1);
                return sign * Math.floorMod(random.nextLong(), most + 1);
        }
    }

    private void compare(String code) {
        CellFormatter x = new CellFormatter();
        if (random.nextBoolean()) {
            // What is compiled from an older code must leave no trace.
            Check.recompile(x, someSections());
            x.erase();
        }
        Check.feedAll(x, code);
        Oracle oracle = new Oracle(code);
        Check.due("compile of " + code, x.compile(), oracle.answer);
        Check.due("sections of " + code, x.sections(), Math.max(0, oracle.answer));
        for (int s = -1; s <= 3; s++) {
            Check.due("kind " + s + " of " + code, x.kind(s), oracle.kind(s));
        }
        if (oracle.answer < 0) {
            Check.due("show of " + code, x.show(0), CellFormatter.NOCODE);
            return;
        }
        good++;
        for (int i = 0; i < 4; i++) {
            boolean is1904 = random.nextBoolean();
            x.calendar(is1904);
            long units = value();
            String want = oracle.show(units, is1904);
            Check.due(code + " of " + units + (is1904 ? " in 1904" : ""), Check.shown(x, units), want);
            Check.due("section of " + code + " of " + units, x.section(), oracle.shownBy);
            shown += want == null ? 0 : 1;
        }
    }
}
