import java.math.BigDecimal;
import java.math.BigInteger;
import java.math.RoundingMode;
import java.time.DateTimeException;
import java.time.LocalDate;
import java.time.temporal.ChronoUnit;
import java.util.ArrayList;
import java.util.List;
import java.util.regex.Matcher;
import java.util.regex.Pattern;

/**
 * The document once more, written with the Java library and by other means than the program: tokens by regular
 * expressions, numbers as BigDecimal, days as LocalDate.
 */
final class Oracle {
    private static final Pattern TOKEN = Pattern.compile(
        "(?<quoted>\"[^\"]*\")|(?<escaped>[\\\\_].)|(?<itself>[ !$&'()+\\-/:=^{}~])|(?<place>[0#?])|(?<point>\\.)"
        + "|(?<comma>,)|(?<percent>%)|(?<exponent>E[+-])"
        + "|(?<condition>\\[(?<test><=|<>|<|>=|>|=)(?<number>-?[0-9]{1,6})\\])|(?<elapsed>\\[[hms]\\])"
        + "|(?<field>(?:yyyy|yy)(?!y)|m{1,3}(?!m)|d{1,3}(?!d)|h{1,2}(?!h)|s{1,2}(?!s))"
        + "|(?<meridiem>AM/PM)|(?<semicolon>;)");
    private static final String[] NAMES = {"quoted", "escaped", "itself", "place", "point", "comma", "percent",
        "exponent", "condition", "elapsed", "field", "meridiem", "semicolon"};
    private static final String[] MONTHS =
        {"Jan", "Feb", "Mar", "Apr", "May", "Jun", "Jul", "Aug", "Sep", "Oct", "Nov", "Dec"};
    private static final String[] WEEKDAYS = {"Sun", "Mon", "Tue", "Wed", "Thu", "Fri", "Sat"};

    private record Token(String name, String text, String test, int number) {
        boolean is(String other) {
            return name.equals(other);
        }

        boolean isField() {
            return is("field") || is("elapsed") || is("meridiem");
        }
    }

    final int answer;
    private final List<List<Token>> sections = new ArrayList<>();
    int shownBy;

    Oracle(String code) {
        answer = compile(code);
    }

    private int compile(String code) {
        sections.add(new ArrayList<>());
        Matcher matcher = TOKEN.matcher(code);
        int place = 0;
        while (place < code.length()) {
            matcher.region(place, code.length());
            if (!matcher.lookingAt()) {
                return -100 - place;
            }
            for (String name : NAMES) {
                if (matcher.group(name) != null) {
                    add(name, matcher);
                }
            }
            place = matcher.end();
        }
        if (sections.size() > 3) {
            return -200;
        }
        for (int s = 0; s < sections.size(); s++) {
            if (!wellMade(sections.get(s))) {
                return -201 - s;
            }
        }
        return sections.size();
    }

    private void add(String name, Matcher matcher) {
        if (name.equals("semicolon")) {
            sections.add(new ArrayList<>());
            return;
        }
        String number = matcher.group("number");
        sections.get(sections.size() - 1).add(new Token(name, matcher.group(), matcher.group("test"),
            number == null ? 0 : Integer.parseInt(number)));
    }

    private static long count(List<Token> tokens, String name) {
        return tokens.stream().filter(t -> t.is(name)).count();
    }

    private static int index(List<Token> tokens, String name) {
        for (int i = 0; i < tokens.size(); i++) {
            if (tokens.get(i).is(name)) {
                return i;
            }
        }
        return tokens.size();
    }

    private static int kind(List<Token> tokens) {
        return tokens.stream().anyMatch(Token::isField) ? 2 : count(tokens, "place") > 0 ? 1 : 0;
    }

    int kind(int s) {
        return answer > 0 && s >= 0 && s < answer ? kind(sections.get(s)) : CellFormatter.BAD;
    }

    private static boolean wellMade(List<Token> tokens) {
        for (int i = 1; i < tokens.size(); i++) {
            if (tokens.get(i).is("condition")) {
                return false;
            }
        }
        boolean marks = tokens.stream().anyMatch(
            t -> t.is("point") || t.is("comma") || t.is("percent") || t.is("exponent"));
        int kind = kind(tokens);
        if (kind != 1) {
            return !marks && count(tokens, "place") == 0;
        }
        if (count(tokens, "point") > 1 || count(tokens, "exponent") > 1 || count(tokens, "percent") > 2) {
            return false;
        }
        // One letter a token, so that the rest of the rules can be read off a text.
        String shape = shape(tokens);
        if (shape.contains("E")) {
            return shape.matches("[^P,.E]*P[^,E]*E[^.,]*P[^.,]*");
        }
        String integer = shape.replaceAll("\\..*", "");
        String rest = shape.substring(integer.length());
        if (rest.contains(",")) {
            return false;
        }
        return !integer.contains(",") || integer.matches("[^P,]*P(.*P)?,*[^P,]*");
    }

    private static String shape(List<Token> tokens) {
        StringBuilder shape = new StringBuilder();
        for (Token t : tokens) {
            switch (t.name()) {
                case "place" -> shape.append('P');
                case "point" -> shape.append('.');
                case "comma" -> shape.append(',');
                case "percent" -> shape.append('%');
                case "exponent" -> shape.append('E');
                default -> shape.append('x');
            }
        }
        return shape.toString();
    }

    /** The text, or null when the value is not shown. */
    String show(long units, boolean is1904) {
        shownBy = CellFormatter.BAD;
        boolean conditional = sections.stream().anyMatch(t -> count(t, "condition") > 0);
        int s = choose(units, conditional);
        if (s < 0) {
            return null;
        }
        List<Token> tokens = sections.get(s);
        boolean minus = units < 0 && (conditional || s != 1);
        String text = switch (kind(tokens)) {
            case 0 -> (minus ? "-" : "") + literals(tokens);
            case 1 -> number(tokens, BigDecimal.valueOf(units, 6).abs(), minus);
            default -> moment(tokens, units, is1904);
        };
        shownBy = text == null ? CellFormatter.BAD : s;
        return text;
    }

    private int choose(long units, boolean conditional) {
        if (!conditional) {
            int sign = Long.signum(units);
            int[][] table = {{0, 0, 0}, {1, 0, 0}, {1, 2, 0}};
            return table[sections.size() - 1][sign + 1];
        }
        for (int s = 0; s < sections.size(); s++) {
            List<Token> tokens = sections.get(s);
            if (count(tokens, "condition") == 0 || holds(tokens.get(0), BigDecimal.valueOf(units, 6))) {
                return s;
            }
        }
        return -1;
    }

    private static boolean holds(Token condition, BigDecimal value) {
        int c = value.compareTo(BigDecimal.valueOf(condition.number()));
        return switch (condition.test()) {
            case "<" -> c < 0;
            case "<=" -> c <= 0;
            case ">" -> c > 0;
            case ">=" -> c >= 0;
            case "=" -> c == 0;
            default -> c != 0;
        };
    }

    private static String literal(Token t) {
        return switch (t.name()) {
            case "quoted" -> t.text().substring(1, t.text().length() - 1);
            case "escaped" -> t.text().charAt(0) == '_' ? " " : t.text().substring(1);
            case "itself" -> t.text();
            default -> "";
        };
    }

    private static String literals(List<Token> tokens) {
        StringBuilder text = new StringBuilder();
        tokens.forEach(t -> text.append(literal(t)));
        return text.toString();
    }

    private static String number(List<Token> tokens, BigDecimal size, boolean minus) {
        int exponentAt = index(tokens, "exponent");
        int pointAt = Math.min(index(tokens, "point"), exponentAt);
        int p = (int) count(tokens.subList(0, pointAt), "place");
        int f = (int) count(tokens.subList(pointAt, exponentAt), "place");
        String shape = shape(tokens);
        int lastPlace = shape.substring(0, pointAt).lastIndexOf('P');
        long scalings = shape.chars().skip(lastPlace + 1).filter(c -> c == ',').count();
        boolean grouped = shape.substring(0, lastPlace + 1).contains(",");
        BigDecimal x = size.scaleByPowerOfTen((int) (2 * count(tokens, "percent") - 3 * scalings));
        int e = 0;
        if (exponentAt < tokens.size() && x.signum() != 0) {
            for (e = 200 * p; x.compareTo(BigDecimal.ONE.scaleByPowerOfTen(e)) < 0; e -= p) { }
            x = x.scaleByPowerOfTen(-e);
        }
        x = x.setScale(f, RoundingMode.HALF_UP);
        if (exponentAt < tokens.size() && x.compareTo(BigDecimal.TEN.pow(p)) == 0) {
            e += p;
            x = BigDecimal.ONE.setScale(f);
        }
        String digits = x.unscaledValue().toString();
        digits = "0".repeat(Math.max(0, f + 1 - digits.length())) + digits;
        String fraction = digits.substring(digits.length() - f);
        StringBuilder text = new StringBuilder(minus && x.signum() != 0 ? "-" : "");
        text.append(integer(tokens.subList(0, pointAt), x.toBigInteger(), grouped));
        int k = 0;
        for (Token t : tokens.subList(pointAt, exponentAt)) {
            if (t.is("place")) {
                boolean zeros = fraction.substring(k).matches("0*");
                text.append(!zeros || t.text().equals("0") ? fraction.substring(k, k + 1)
                    : t.text().equals("?") ? " " : "");
                k++;
            } else {
                text.append(t.is("point") ? "." : t.is("percent") ? "%" : literal(t));
            }
        }
        if (exponentAt < tokens.size()) {
            text.append('E').append(e < 0 ? "-" : tokens.get(exponentAt).text().equals("E+") ? "+" : "");
            text.append(integer(tokens.subList(exponentAt + 1, tokens.size()), BigInteger.valueOf(Math.abs(e)), false));
        }
        return text.toString();
    }

    /** Fills the places from the right, then takes what is left over into the first one. */
    private static String integer(List<Token> tokens, BigInteger n, boolean grouped) {
        String digits = n.signum() == 0 ? "" : n.toString();
        int places = (int) count(tokens, "place");
        String[] shown = new String[tokens.size()];
        int power = 0;
        for (int i = tokens.size() - 1; i >= 0; i--) {
            Token t = tokens.get(i);
            if (!t.is("place")) {
                shown[i] = t.is("percent") ? "%" : literal(t);
                continue;
            }
            boolean has = power < digits.length();
            char digit = has ? digits.charAt(digits.length() - 1 - power) : '0';
            String comma = grouped && power > 0 && power % 3 == 0 ? "," : "";
            shown[i] = has || t.text().equals("0") ? digit + comma : t.text().equals("?") ? " " : "";
            power++;
            if (power == places) {
                for (; power < digits.length(); power++) {
                    comma = grouped && power % 3 == 0 ? "," : "";
                    shown[i] = digits.charAt(digits.length() - 1 - power) + comma + shown[i];
                }
            }
        }
        return String.join("", shown);
    }

    private static String moment(List<Token> tokens, long units, boolean is1904) {
        if (units < 0) {
            return null;
        }
        long total = BigDecimal.valueOf(units, 6).multiply(BigDecimal.valueOf(86400))
            .setScale(0, RoundingMode.HALF_UP).longValueExact();
        long days = total / 86400;
        List<Token> fields = tokens.stream().filter(Token::isField).toList();
        List<String> meanings = new ArrayList<>();
        for (int i = 0; i < fields.size(); i++) {
            meanings.add(meaning(fields, i));
        }
        boolean naming = meanings.stream().anyMatch(m -> m.matches("[ymd].*"));
        if (days > lastSerial(is1904) || naming && !is1904 && days == 0) {
            return null;
        }
        boolean twelve = meanings.contains("AM/PM");
        StringBuilder text = new StringBuilder();
        int next = 0;
        for (Token t : tokens) {
            text.append(t.isField() ? field(meanings.get(next++), total, is1904, twelve) : literal(t));
        }
        return text.toString();
    }

    /** The text of a field, with n for m where it is the minute. */
    private static String meaning(List<Token> fields, int i) {
        String text = fields.get(i).text();
        if (!text.matches("mm?")) {
            return text;
        }
        String before = i > 0 ? fields.get(i - 1).text() : "";
        String behind = i + 1 < fields.size() ? fields.get(i + 1).text() : "";
        return before.matches("hh?|\\[h\\]") || behind.matches("ss?|\\[s\\]") ? text.replace('m', 'n') : text;
    }

    private static String field(String meaning, long total, boolean is1904, boolean twelve) {
        int days = (int) (total / 86400);
        int hour = (int) (total / 3600 % 24);
        int shownHour = !twelve ? hour : hour % 12 == 0 ? 12 : hour % 12;
        int year = partOf(days, 0, is1904);
        int month = partOf(days, 1, is1904);
        int day = partOf(days, 2, is1904);
        int weekday = partOf(days, 3, is1904);
        return switch (meaning) {
            case "yyyy" -> String.format("%04d", year);
            case "yy" -> String.format("%02d", year % 100);
            case "m" -> "" + month;
            case "mm" -> String.format("%02d", month);
            case "mmm" -> MONTHS[month - 1];
            case "d" -> "" + day;
            case "dd" -> String.format("%02d", day);
            case "ddd" -> WEEKDAYS[weekday - 1];
            case "h" -> "" + shownHour;
            case "hh" -> String.format("%02d", shownHour);
            case "n" -> "" + total / 60 % 60;
            case "nn" -> String.format("%02d", total / 60 % 60);
            case "s" -> "" + total % 60;
            case "ss" -> String.format("%02d", total % 60);
            case "AM/PM" -> hour < 12 ? "AM" : "PM";
            case "[h]" -> "" + total / 3600;
            case "[m]" -> "" + total / 60;
            default -> "" + total;
        };
    }

    static int lastSerial(boolean is1904) {
        return is1904 ? 2957003 : 2958465;
    }

    /** Part 0 to 3 of a day as the method date answers it; the day before the first of 1900 has parts here too. */
    private static int partOf(int serial, int part, boolean is1904) {
        boolean never = !is1904 && serial == 60;
        LocalDate date = is1904 ? LocalDate.of(1904, 1, 1).plusDays(serial)
            : serial < 60 ? LocalDate.of(1899, 12, 31).plusDays(serial) : LocalDate.of(1899, 12, 30).plusDays(serial);
        return switch (part) {
            case 0 -> date.getYear();
            case 1 -> never ? 2 : date.getMonthValue();
            case 2 -> never ? 29 : date.getDayOfMonth();
            default -> 1 + (is1904 ? date.getDayOfWeek().getValue() % 7 : Math.floorMod(serial - 1, 7));
        };
    }

    static int date(int serial, int part, boolean is1904) {
        boolean stands = serial >= (is1904 ? 0 : 1) && serial <= lastSerial(is1904) && part >= 0 && part <= 3;
        return stands ? partOf(serial, part, is1904) : CellFormatter.BAD;
    }

    static int serial(int year, int month, int day, boolean is1904) {
        LocalDate first = LocalDate.of(is1904 ? 1904 : 1900, 1, 1);
        if (!is1904 && year == 1900 && month == 2 && day == 29) {
            return 60;
        }
        if (year < first.getYear() || year > 9999) {
            return CellFormatter.BAD;
        }
        try {
            int past = (int) ChronoUnit.DAYS.between(first, LocalDate.of(year, month, day));
            return is1904 ? past : past < 59 ? past + 1 : past + 2;
        } catch (DateTimeException noSuchDay) {
            return CellFormatter.BAD;
        }
    }
}
