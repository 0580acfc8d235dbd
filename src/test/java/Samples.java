import java.util.Random;

/** Random codes and values for the tests; the seed is fixed, so every run is the same. */
final class Samples {
    private static final String[] ANY = {"0", "#", "?", ".", ",", "%", "E+", "E-", ";", "\"a;0\"", "\"\"", "\\;", "_0",
        " ", "-", "(", "[<5]", "[>=-10]", "[<>0]", "[=1]", "[h]", "[m]", "[s]", "yy", "yyyy", "m", "mm", "mmm", "d",
        "dd", "ddd", "h", "hh", "s", "ss", "AM/PM", "x", "\"", "[", "E", "mmmm", "yyy", "\\", "]", "<"};
    private static final String[] NUMBER = {"0", "#", "?", "0", "#", "?", "0", ",", "-", "\"b\"", "%", "0", "#", "?"};
    private static final String[] FIELDS = {"[h]", "[m]", "[s]", "yy", "yyyy", "m", "mm", "m", "mm", "mmm", "d", "dd",
        "ddd", "h", "hh", "s", "ss", "AM/PM", " ", ":", "/", "\"x\"", " "};
    private static final String[] CONDITIONS =
        {"", "", "", "[<5]", "[>=-10]", "[<>0]", "[=1]", "[<=1000]", "[>-999999]"};
    private static final int MOST_CODE = 40;

    final Random random;

    Samples(long seed) {
        random = new Random(seed);
    }

    private String pick(String[] row) {
        return row[random.nextInt(row.length)];
    }

    private String several(String[] row, int most) {
        StringBuilder text = new StringBuilder();
        for (int n = random.nextInt(most + 1); n > 0; n--) {
            text.append(pick(row));
        }
        return text.toString();
    }

    /** Tokens of all kinds in any order, and what is no token. */
    String rawCode() {
        return cut(several(ANY, 8));
    }

    /** One to three sections, most of them well made. */
    String someSections() {
        StringBuilder code = new StringBuilder(oneSection());
        for (int n = random.nextInt(3); n > 0; n--) {
            code.append(';').append(oneSection());
        }
        return cut(code.toString());
    }

    private String cut(String code) {
        return code.substring(0, Math.min(code.length(), MOST_CODE));
    }

    private String oneSection() {
        String condition = pick(CONDITIONS);
        int shape = random.nextInt(6);
        if (shape == 0) {
            return condition + several(FIELDS, 7);
        }
        if (shape == 1) {
            return condition + "\"t\"" + several(new String[] {" ", "\\y", "(", "_0"}, 3);
        }
        String integer = several(NUMBER, 7);
        if (shape == 2) {
            return condition + integer + several(new String[] {",", "%"}, 3);
        }
        String fraction = several(NUMBER, 5).replace(",", "");
        if (shape == 3) {
            return condition + integer + several(new String[] {","}, 2) + "." + fraction;
        }
        String exponent = (random.nextBoolean() ? "E+" : "E-") + several(NUMBER, 3).replace(",", "");
        return condition + integer.replace(",", "") + (random.nextBoolean() ? "." + fraction : "") + exponent;
    }

    /** A value that can be shown. */
    long value() {
        long sign = random.nextInt(3) == 0 ? -1 : 1;
        switch (random.nextInt(8)) {
            case 0:
                return 0;
            case 1:
                return sign * (long) Math.pow(10, random.nextInt(16));
            case 2:
                return sign * ((long) Math.pow(10, random.nextInt(15) + 1) - 1 - random.nextInt(3));
            case 3:
                return sign * 5 * (long) Math.pow(10, random.nextInt(14));
            case 4:
                return sign * (random.nextInt(100) * 1000000L + random.nextInt(5) * 250000L);
            case 5:
                return random.nextInt(2958467) * 1000000L + random.nextInt(1000000);
            case 6:
                return sign * (Math.floorMod(random.nextLong(), 9995L) * 100 + 50);
            default:
                long most = (long) Math.pow(10, random.nextInt(15) + 1);
                return sign * Math.floorMod(random.nextLong(), most + 1);
        }
    }
}
