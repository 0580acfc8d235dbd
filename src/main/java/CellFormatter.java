/**
 * Shows numbers and moments as the format code of a spreadsheet cell says.
 *
 * Everything that a call needs is made once, in the constructor, and used again by every call.
 */
public final class CellFormatter {
    public static final int NOTSHOWN = -1;
    public static final int NOCODE = -2;
    public static final int BAD = -3;

    private static final int MOST_CODE = 40;
    private static final int MOST_SECTIONS = 3;
    /** The longest text is that of thirteen times [s], twelve digits each. */
    private static final int MOST_SHOWN = 256;
    private static final long UNITS_IN_ONE = 1000000L;
    private static final int DECIMALS_OF_UNITS = 6;
    private static final long MOST_UNITS = 1000000000000000L;
    private static final int SECONDS_IN_DAY = 86400;

    /** The kinds of sections, as the method kind answers them. */
    private static final int PLAIN = 0;
    private static final int NUMBER = 1;
    private static final int DATE = 2;

    /** The types of tokens. A quoted text is a QUOTE, which shows nothing, and a LITERAL for each character. */
    private static final int QUOTE = 0;
    private static final int LITERAL = 1;
    private static final int PLACE = 2;
    private static final int POINT = 3;
    private static final int COMMA = 4;
    private static final int PERCENT = 5;
    private static final int EXPONENT = 6;
    private static final int CONDITION = 7;
    private static final int FIELD = 8;
    private static final int ELAPSED = 9;
    private static final int MERIDIEM = 10;
    private static final int SEMICOLON = 11;

    /** The outcomes of a comparison; a condition's test is the sum of those for which it holds. */
    private static final int LESS = 1;
    private static final int EQUAL = 2;
    private static final int MORE = 4;

    /** The letter of a field m or mm that stands for the minute; no code can hold it as a field. */
    private static final char MINUTE = 'n';

    private static final long[] POWERS = {
        1L, 10L, 100L, 1000L, 10000L, 100000L, 1000000L, 10000000L, 100000000L, 1000000000L,
        10000000000L, 100000000000L, 1000000000000L, 10000000000000L, 100000000000000L,
        1000000000000000L, 10000000000000000L, 100000000000000000L, 1000000000000000000L
    };

    private final char[] code;
    private int codeLength;
    private final Tokens tokens;
    private final Scanner scanner;
    private final Section[] parts;
    private int partCount;
    private boolean conditional;
    private final Calendar days;
    private final Text shown;
    private int shownBy;
    private final NumberWriter numbers;
    private final MomentWriter moments;

    public CellFormatter() {
        code = new char[MOST_CODE];
        codeLength = 0;
        tokens = new Tokens();
        scanner = new Scanner(tokens);
        parts = new Section[MOST_SECTIONS];
        for (int s = 0; s < MOST_SECTIONS; s++) {
            parts[s] = new Section();
        }
        partCount = 0;
        conditional = false;
        days = new Calendar();
        shown = new Text();
        shownBy = BAD;
        numbers = new NumberWriter(shown);
        moments = new MomentWriter(shown, days);
    }

    public boolean feed(char c) {
        if (c < 32 || c > 126 || codeLength >= MOST_CODE) {
            return false;
        }
        code[codeLength] = c;
        codeLength++;
        return true;
    }

    public void erase() {
        codeLength = 0;
    }

    public int compile() {
        partCount = 0;
        int fault = scanner.scan(code, codeLength);
        if (fault >= 0) {
            return -100 - fault;
        }
        int found = tokens.count(SEMICOLON, 0, tokens.size) + 1;
        if (found > MOST_SECTIONS) {
            return -200;
        }
        int illMade = readParts(found);
        if (illMade >= 0) {
            return -201 - illMade;
        }
        partCount = found;
        return found;
    }

    public int sections() {
        return partCount;
    }

    public int kind(int s) {
        return s >= 0 && s < partCount ? parts[s].kind : BAD;
    }

    public void calendar(boolean is1904) {
        days.is1904 = is1904;
    }

    public int show(long units) {
        shown.clear();
        shownBy = BAD;
        if (partCount == 0) {
            return NOCODE;
        }
        if (units < -MOST_UNITS || units > MOST_UNITS) {
            return BAD;
        }
        int s = choosePart(units);
        if (s < 0 || !writeBy(s, units)) {
            return NOTSHOWN;
        }
        shownBy = s;
        return shown.length;
    }

    public char charAt(int i) {
        return shown.at(i);
    }

    public int section() {
        return shownBy;
    }

    public int date(int serial, int part) {
        if (part < 0 || part > 3 || !days.findDay(serial)) {
            return BAD;
        }
        if (part == 0) {
            return days.year;
        }
        if (part == 1) {
            return days.month;
        }
        return part == 2 ? days.day : days.weekday;
    }

    public int serial(int year, int month, int day) {
        return days.serialOf(year, month, day);
    }

    /** Answers the first section that is not well made, or -1. */
    private int readParts(int found) {
        conditional = false;
        int first = 0;
        for (int s = 0; s < found; s++) {
            int end = tokens.find(SEMICOLON, first, tokens.size);
            if (!parts[s].read(tokens, first, end)) {
                return s;
            }
            conditional = conditional || parts[s].hasCondition();
            first = end + 1;
        }
        return -1;
    }

    /** Answers the section for a value, or -1. */
    private int choosePart(long units) {
        if (conditional) {
            return chooseByCondition(units);
        }
        if (partCount == 1 || units > 0) {
            return 0;
        }
        if (units < 0) {
            return 1;
        }
        return partCount == 3 ? 2 : 0;
    }

    private int chooseByCondition(long units) {
        for (int s = 0; s < partCount; s++) {
            if (parts[s].admits(units)) {
                return s;
            }
        }
        return -1;
    }

    private boolean writeBy(int s, long units) {
        Section part = parts[s];
        if (part.kind == DATE) {
            return moments.write(tokens, part, units);
        }
        boolean withoutSign = !conditional && s == 1;
        boolean minus = units < 0 && !withoutSign;
        if (part.kind == NUMBER) {
            numbers.write(tokens, part, Math.abs(units), minus);
        } else {
            writePlain(part, minus);
        }
        return true;
    }

    private void writePlain(Section part, boolean minus) {
        if (minus) {
            shown.add('-');
        }
        for (int i = part.first; i < part.end; i++) {
            if (tokens.typeAt(i) == LITERAL) {
                shown.add((char) tokens.valueAt(i));
            }
        }
    }

    private static int countDigits(long number) {
        for (int i = 1; i < POWERS.length; i++) {
            if (number < POWERS[i]) {
                return i;
            }
        }
        return POWERS.length;
    }

    /** The characters shown last. */
    private static final class Text {
        private final char[] chars;
        private int length;

        Text() {
            chars = new char[MOST_SHOWN];
            length = 0;
        }

        void clear() {
            length = 0;
        }

        void add(char c) {
            if (length < MOST_SHOWN) {
                chars[length] = c;
                length++;
            }
        }

        void addNumber(long number, int leastDigits) {
            int count = Math.min(Math.max(countDigits(number), leastDigits), POWERS.length);
            for (int power = count - 1; power >= 0; power--) {
                add((char) ('0' + number / POWERS[power] % 10));
            }
        }

        char at(int i) {
            return i >= 0 && i < length ? chars[i] : 0;
        }
    }

    /**
     * The tokens of a code, its semicolons among them. The value of a token is its character or letter, or a
     * condition's number; the detail is the length of a field or the test of a condition.
     */
    private static final class Tokens {
        private static final int NO_TYPE = -1;

        private final int[] types;
        private final int[] values;
        private final int[] details;
        private int size;

        Tokens() {
            types = new int[MOST_CODE];
            values = new int[MOST_CODE];
            details = new int[MOST_CODE];
            size = 0;
        }

        void clear() {
            size = 0;
        }

        void add(int type, int value, int detail) {
            // Every token takes at least one character of the code, so there is room for all.
            if (size < MOST_CODE) {
                types[size] = type;
                values[size] = value;
                details[size] = detail;
                size++;
            }
        }

        int typeAt(int i) {
            return i >= 0 && i < size ? types[i] : NO_TYPE;
        }

        int valueAt(int i) {
            return i >= 0 && i < size ? values[i] : 0;
        }

        int detailAt(int i) {
            return i >= 0 && i < size ? details[i] : 0;
        }

        void setValue(int i, int value) {
            if (i >= 0 && i < size) {
                values[i] = value;
            }
        }

        boolean isField(int i) {
            int type = typeAt(i);
            return type == FIELD || type == ELAPSED || type == MERIDIEM;
        }

        int count(int type, int first, int end) {
            int count = 0;
            for (int i = first; i < end; i++) {
                if (typeAt(i) == type) {
                    count++;
                }
            }
            return count;
        }

        /** Answers the first token of a type, or end. */
        int find(int type, int first, int end) {
            for (int i = first; i < end; i++) {
                if (typeAt(i) == type) {
                    return i;
                }
            }
            return end;
        }

        /** Answers the last token of a type, or first - 1. */
        int findLast(int type, int first, int end) {
            for (int i = end - 1; i >= first; i--) {
                if (typeAt(i) == type) {
                    return i;
                }
            }
            return first - 1;
        }
    }

    /** Tells the tokens of a code apart. Its methods answer how many characters a token takes, 0 if there is none. */
    private static final class Scanner {
        private static final String ITSELF = " !$&'()+-/:=^{}~";
        private static final String FIELD_LETTERS = "ymdhs";
        private static final String ELAPSED_LETTERS = "hms";
        private static final String PLACES = "0#?";
        private static final String AM_PM = "AM/PM";
        private static final int MOST_CONDITION_DIGITS = 6;

        private final Tokens tokens;
        private char[] code;
        private int length;

        Scanner(Tokens target) {
            tokens = target;
            code = new char[0];
            length = 0;
        }

        /** Answers the place where no token begins, or -1. */
        int scan(char[] newCode, int newLength) {
            code = newCode;
            length = Math.min(newLength, newCode.length);
            tokens.clear();
            int place = 0;
            while (place < length) {
                int width = scanToken(place);
                if (width <= 0) {
                    return place;
                }
                place += width;
            }
            return -1;
        }

        private char at(int place) {
            return place >= 0 && place < length ? code[place] : 0;
        }

        private int scanToken(int place) {
            char c = at(place);
            if (c == '"') {
                return scanQuoted(place);
            }
            if (c == '\\' || c == '_') {
                return scanEscaped(place);
            }
            if (c == '[') {
                return scanBracket(place);
            }
            if (c == 'E') {
                return scanExponent(place);
            }
            if (c == 'A') {
                return scanMeridiem(place);
            }
            if (FIELD_LETTERS.indexOf(c) >= 0) {
                return scanField(place);
            }
            return scanSingle(c);
        }

        private int scanQuoted(int place) {
            int end = place + 1;
            while (end < length && at(end) != '"') {
                end++;
            }
            if (end >= length) {
                return 0;
            }
            // Without this mark an empty text would be no token, and the rules on neighbours would not see it.
            tokens.add(QUOTE, 0, 0);
            for (int i = place + 1; i < end; i++) {
                tokens.add(LITERAL, at(i), 0);
            }
            return end + 1 - place;
        }

        private int scanEscaped(int place) {
            if (place + 1 >= length) {
                return 0;
            }
            tokens.add(LITERAL, at(place) == '_' ? ' ' : at(place + 1), 0);
            return 2;
        }

        private int scanBracket(int place) {
            char letter = at(place + 1);
            if (ELAPSED_LETTERS.indexOf(letter) >= 0 && at(place + 2) == ']') {
                tokens.add(ELAPSED, letter, 0);
                return 3;
            }
            return scanCondition(place);
        }

        private int scanCondition(int place) {
            int test = testAt(place + 1);
            if (test == 0) {
                return 0;
            }
            boolean oneSign = test == LESS || test == EQUAL || test == MORE;
            int next = place + (oneSign ? 2 : 3);
            boolean negative = at(next) == '-';
            if (negative) {
                next++;
            }
            int number = 0;
            int digits = 0;
            while (digits < MOST_CONDITION_DIGITS && isDigit(at(next + digits))) {
                number = number * 10 + (at(next + digits) - '0');
                digits++;
            }
            if (digits == 0 || at(next + digits) != ']') {
                return 0;
            }
            tokens.add(CONDITION, negative ? -number : number, test);
            return next + digits + 1 - place;
        }

        /** Answers the test whose sign stands at a place, or 0. */
        private int testAt(int place) {
            char c = at(place);
            char next = at(place + 1);
            if (c == '=') {
                return EQUAL;
            }
            if (c == '>') {
                return next == '=' ? MORE + EQUAL : MORE;
            }
            if (c != '<') {
                return 0;
            }
            if (next == '=') {
                return LESS + EQUAL;
            }
            return next == '>' ? LESS + MORE : LESS;
        }

        private boolean isDigit(char c) {
            return c >= '0' && c <= '9';
        }

        private int scanExponent(int place) {
            char sign = at(place + 1);
            if (sign != '+' && sign != '-') {
                return 0;
            }
            tokens.add(EXPONENT, sign, 0);
            return 2;
        }

        private int scanMeridiem(int place) {
            for (int i = 0; i < AM_PM.length(); i++) {
                if (at(place + i) != AM_PM.charAt(i)) {
                    return 0;
                }
            }
            tokens.add(MERIDIEM, 'A', 0);
            return AM_PM.length();
        }

        private int scanField(int place) {
            char letter = at(place);
            int end = place + 1;
            while (end < length && at(end) == letter) {
                end++;
            }
            int run = end - place;
            if (!isFieldLength(letter, run)) {
                return 0;
            }
            tokens.add(FIELD, letter, run);
            return run;
        }

        private boolean isFieldLength(char letter, int run) {
            if (letter == 'y') {
                return run == 2 || run == 4;
            }
            return letter == 'm' || letter == 'd' ? run <= 3 : run <= 2;
        }

        private int scanSingle(char c) {
            if (ITSELF.indexOf(c) >= 0) {
                tokens.add(LITERAL, c, 0);
            } else if (PLACES.indexOf(c) >= 0) {
                tokens.add(PLACE, c, 0);
            } else if (c == '.') {
                tokens.add(POINT, c, 0);
            } else if (c == ',') {
                tokens.add(COMMA, c, 0);
            } else if (c == '%') {
                tokens.add(PERCENT, c, 0);
            } else if (c == ';') {
                tokens.add(SEMICOLON, c, 0);
            } else {
                return 0;
            }
            return 1;
        }
    }

    /** A section: which tokens it has, and what is known of them before any value comes. */
    private static final class Section {
        private int first;
        private int end;
        private int kind;
        private int test;
        private long bound;
        private int pointAt;
        private int exponentAt;
        private int integerPlaces;
        private int fractionPlaces;
        private int exponentPlaces;
        private int percents;
        private int scalings;
        private boolean grouped;
        private boolean twelveHours;
        private boolean namesDay;

        Section() {
            kind = PLAIN;
        }

        /** Answers whether the section is well made. */
        boolean read(Tokens tokens, int from, int to) {
            first = from;
            end = to;
            int places = tokens.count(PLACE, first, end);
            if (countFields(tokens) > 0) {
                kind = DATE;
            } else {
                kind = places > 0 ? NUMBER : PLAIN;
            }
            if (!readCondition(tokens)) {
                return false;
            }
            if (kind == NUMBER) {
                return readNumber(tokens);
            }
            readFields(tokens);
            return places == 0 && !hasNumberMarks(tokens);
        }

        boolean hasCondition() {
            return test != 0;
        }

        /** Answers whether there is no condition or it holds. */
        boolean admits(long units) {
            if (!hasCondition()) {
                return true;
            }
            int outcome = EQUAL;
            if (units != bound) {
                outcome = units < bound ? LESS : MORE;
            }
            return (test & outcome) != 0;
        }

        boolean hasExponent() {
            return exponentAt < end;
        }

        private int countFields(Tokens tokens) {
            int count = 0;
            for (int i = first; i < end; i++) {
                if (tokens.isField(i)) {
                    count++;
                }
            }
            return count;
        }

        private boolean hasNumberMarks(Tokens tokens) {
            return tokens.count(POINT, first, end) > 0 || tokens.count(COMMA, first, end) > 0
                || tokens.count(PERCENT, first, end) > 0 || tokens.count(EXPONENT, first, end) > 0;
        }

        private boolean readCondition(Tokens tokens) {
            test = 0;
            bound = 0;
            int count = tokens.count(CONDITION, first, end);
            if (count == 0) {
                return true;
            }
            if (count > 1 || tokens.typeAt(first) != CONDITION) {
                return false;
            }
            test = tokens.detailAt(first);
            bound = tokens.valueAt(first) * UNITS_IN_ONE;
            return true;
        }

        private boolean readNumber(Tokens tokens) {
            int points = tokens.count(POINT, first, end);
            int exponents = tokens.count(EXPONENT, first, end);
            percents = tokens.count(PERCENT, first, end);
            if (points > 1 || exponents > 1 || percents > 2) {
                return false;
            }
            exponentAt = tokens.find(EXPONENT, first, end);
            pointAt = tokens.find(POINT, first, exponentAt);
            if (points == 1 && pointAt == exponentAt) {
                return false;
            }
            integerPlaces = tokens.count(PLACE, first, pointAt);
            fractionPlaces = tokens.count(PLACE, pointAt, exponentAt);
            exponentPlaces = tokens.count(PLACE, exponentAt, end);
            if (hasExponent() && (integerPlaces == 0 || exponentPlaces == 0)) {
                return false;
            }
            return readCommas(tokens);
        }

        private boolean readCommas(Tokens tokens) {
            grouped = false;
            scalings = 0;
            int firstPlace = tokens.find(PLACE, first, pointAt);
            int lastPlace = tokens.findLast(PLACE, first, pointAt);
            for (int i = first; i < end; i++) {
                if (tokens.typeAt(i) != COMMA) {
                    continue;
                }
                if (integerPlaces == 0 || hasExponent()) {
                    return false;
                }
                if (i > firstPlace && i < lastPlace) {
                    grouped = true;
                } else if (i == lastPlace + 1 + scalings) {
                    scalings++;
                } else {
                    return false;
                }
            }
            return true;
        }

        private void readFields(Tokens tokens) {
            twelveHours = tokens.count(MERIDIEM, first, end) > 0;
            namesDay = false;
            for (int i = first; i < end; i++) {
                if (tokens.typeAt(i) != FIELD) {
                    continue;
                }
                int letter = tokens.valueAt(i);
                boolean amongTime = letterBefore(tokens, i) == 'h' || letterBehind(tokens, i) == 's';
                if (letter == 'm' && tokens.detailAt(i) <= 2 && amongTime) {
                    tokens.setValue(i, MINUTE);
                } else if (letter == 'y' || letter == 'm' || letter == 'd') {
                    namesDay = true;
                }
            }
        }

        private int letterBefore(Tokens tokens, int at) {
            for (int i = at - 1; i >= first; i--) {
                if (tokens.isField(i)) {
                    return tokens.valueAt(i);
                }
            }
            return 0;
        }

        private int letterBehind(Tokens tokens, int at) {
            for (int i = at + 1; i < end; i++) {
                if (tokens.isField(i)) {
                    return tokens.valueAt(i);
                }
            }
            return 0;
        }
    }

    /**
     * A number that is not negative: digits times ten to a power. Percents, scaling and exponents only move the
     * power, so no value ever outgrows a long.
     */
    private static final class Decimal {
        private long digits;
        private int power;

        Decimal() {
            digits = 0;
            power = 0;
        }

        void set(long newDigits, int newPower) {
            digits = newDigits;
            power = newPower;
        }

        boolean isZero() {
            return digits == 0;
        }

        /** The power of ten of the highest digit; below 0 for a number below 1. */
        int highestPower() {
            return isZero() ? -1 : countDigits(digits) - 1 + power;
        }

        int digitOf(int tenPower) {
            int i = tenPower - power;
            return i >= 0 && i < POWERS.length ? (int) (digits / POWERS[i] % 10) : 0;
        }

        void round(int decimals) {
            int dropped = -decimals - power;
            if (dropped <= 0) {
                return;
            }
            if (dropped < POWERS.length) {
                digits = (digits + POWERS[dropped] / 2) / POWERS[dropped];
            } else {
                digits = 0;
            }
            power = -decimals;
        }

        /** Divides by a power of ten, so that the number fits the integer places, and rounds; answers the exponent. */
        int takeExponent(int integerPlaces, int decimals) {
            if (isZero() || integerPlaces <= 0) {
                return 0;
            }
            int exponent = Math.floorDiv(highestPower(), integerPlaces) * integerPlaces;
            power -= exponent;
            round(decimals);
            if (highestPower() >= integerPlaces) {
                set(1, 0);
                exponent += integerPlaces;
            }
            return exponent;
        }
    }

    /** Writes values by NUMBER sections. */
    private static final class NumberWriter {
        private final Text out;
        private final Decimal number;
        private final Decimal exponentSize;
        private boolean exponentNegative;
        private int integersLeft;
        private int fractionsSeen;
        private int exponentsLeft;

        NumberWriter(Text target) {
            out = target;
            number = new Decimal();
            exponentSize = new Decimal();
        }

        void write(Tokens tokens, Section part, long magnitude, boolean minus) {
            prepare(part, magnitude);
            if (minus && !number.isZero()) {
                out.add('-');
            }
            for (int i = part.first; i < part.end; i++) {
                int type = tokens.typeAt(i);
                if (type == PLACE) {
                    writePlace(part, i, tokens.valueAt(i));
                } else if (type == EXPONENT) {
                    writeExponentMark(tokens.valueAt(i));
                } else if (type == LITERAL || type == PERCENT || type == POINT) {
                    out.add((char) tokens.valueAt(i));
                }
            }
        }

        private void prepare(Section part, long magnitude) {
            number.set(magnitude, 2 * part.percents - 3 * part.scalings - DECIMALS_OF_UNITS);
            int exponent = 0;
            if (part.hasExponent()) {
                exponent = number.takeExponent(part.integerPlaces, part.fractionPlaces);
            } else {
                number.round(part.fractionPlaces);
            }
            exponentNegative = exponent < 0;
            exponentSize.set(Math.abs(exponent), 0);
            integersLeft = part.integerPlaces;
            fractionsSeen = 0;
            exponentsLeft = part.exponentPlaces;
        }

        private void writeExponentMark(int sign) {
            out.add('E');
            if (exponentNegative) {
                out.add('-');
            } else if (sign == '+') {
                out.add('+');
            }
        }

        private void writePlace(Section part, int at, int place) {
            if (at < part.pointAt) {
                boolean isFirst = integersLeft == part.integerPlaces;
                integersLeft--;
                writeIntegerPlace(number, place, integersLeft, isFirst, part.grouped);
            } else if (at < part.exponentAt) {
                fractionsSeen++;
                writeFractionPlace(place, part.fractionPlaces);
            } else {
                boolean isFirst = exponentsLeft == part.exponentPlaces;
                exponentsLeft--;
                writeIntegerPlace(exponentSize, place, exponentsLeft, isFirst, false);
            }
        }

        private void writeIntegerPlace(Decimal source, int place, int power, boolean isFirst, boolean grouped) {
            int highest = source.highestPower();
            if (isFirst) {
                for (int greater = highest; greater > power; greater--) {
                    writeDigit(source, greater, grouped);
                }
            }
            if (power <= highest || place == '0') {
                writeDigit(source, power, grouped);
            } else if (place == '?') {
                out.add(' ');
            }
        }

        private void writeDigit(Decimal source, int power, boolean grouped) {
            out.add((char) ('0' + source.digitOf(power)));
            if (grouped && power > 0 && power % 3 == 0) {
                out.add(',');
            }
        }

        private void writeFractionPlace(int place, int places) {
            if (place == '0' || !onlyZerosFrom(fractionsSeen, places)) {
                out.add((char) ('0' + number.digitOf(-fractionsSeen)));
            } else if (place == '?') {
                out.add(' ');
            }
        }

        private boolean onlyZerosFrom(int start, int places) {
            for (int k = start; k <= places; k++) {
                if (number.digitOf(-k) != 0) {
                    return false;
                }
            }
            return true;
        }
    }

    /** The calendar in use, and the day that was found in it last. */
    private static final class Calendar {
        private static final int LAST_YEAR = 9999;
        /** 8100 years halved so often are less than one. */
        private static final int MOST_YEAR_STEPS = 14;
        private static final int LAST_SERIAL_1900 = 2958465;
        private static final int LAST_SERIAL_1904 = 2957003;
        /** The serial of 29 February 1900, the day that never was. */
        private static final int NEVER = 60;
        private static final int WEEKDAY_SHIFT_1904 = 5;
        private static final int[] MONTH_LENGTHS = {31, 28, 31, 30, 31, 30, 31, 31, 30, 31, 30, 31};

        private boolean is1904;
        private int year;
        private int month;
        private int day;
        private int weekday;

        Calendar() {
            is1904 = false;
        }

        int lastSerial() {
            return is1904 ? LAST_SERIAL_1904 : LAST_SERIAL_1900;
        }

        /** Answers whether there is such a serial; if so, sets the parts of its day. */
        boolean findDay(int serial) {
            if (serial < (is1904 ? 0 : 1) || serial > lastSerial()) {
                return false;
            }
            if (is1904) {
                weekday = (serial + WEEKDAY_SHIFT_1904) % 7 + 1;
                setDate(daysBeforeYear(1904) + serial);
                return true;
            }
            weekday = (serial - 1) % 7 + 1;
            if (serial == NEVER) {
                year = 1900;
                month = 2;
                day = 29;
            } else {
                setDate(daysBeforeYear(1900) + serial - (serial < NEVER ? 1 : 2));
            }
            return true;
        }

        int serialOf(int ofYear, int ofMonth, int ofDay) {
            int firstYear = is1904 ? 1904 : 1900;
            if (ofYear < firstYear || ofYear > LAST_YEAR || ofMonth < 1 || ofMonth > 12) {
                return BAD;
            }
            if (ofYear == 1900 && ofMonth == 2 && ofDay == 29) {
                return NEVER;
            }
            if (ofDay < 1 || ofDay > monthLength(ofYear, ofMonth)) {
                return BAD;
            }
            int past = daysBeforeYear(ofYear) - daysBeforeYear(firstYear) + ofDay - 1;
            for (int m = 1; m < ofMonth; m++) {
                past += monthLength(ofYear, m);
            }
            if (is1904) {
                return past;
            }
            return past + 1 < NEVER ? past + 1 : past + 2;
        }

        /** Sets year, month and day from the number of days since 1 January of the year 1. */
        private void setDate(int dayNumber) {
            year = yearOf(dayNumber);
            int left = dayNumber - daysBeforeYear(year);
            month = 1;
            while (month < 12 && left >= monthLength(year, month)) {
                left -= monthLength(year, month);
                month++;
            }
            day = left + 1;
        }

        private static int yearOf(int dayNumber) {
            int low = 1900;
            int high = LAST_YEAR;
            for (int step = 0; step < MOST_YEAR_STEPS && low < high; step++) {
                int middle = (low + high + 1) / 2;
                if (daysBeforeYear(middle) <= dayNumber) {
                    low = middle;
                } else {
                    high = middle - 1;
                }
            }
            return low;
        }

        private static int daysBeforeYear(int ofYear) {
            int past = ofYear - 1;
            return past * 365 + past / 4 - past / 100 + past / 400;
        }

        private static int monthLength(int ofYear, int ofMonth) {
            if (ofMonth == 2 && isLeap(ofYear)) {
                return 29;
            }
            return ofMonth >= 1 && ofMonth <= 12 ? MONTH_LENGTHS[ofMonth - 1] : 0;
        }

        private static boolean isLeap(int ofYear) {
            return ofYear % 4 == 0 && (ofYear % 100 != 0 || ofYear % 400 == 0);
        }
    }

    /** Writes values by DATE sections. */
    private static final class MomentWriter {
        private static final String MONTHS = "JanFebMarAprMayJunJulAugSepOctNovDec";
        private static final String WEEKDAYS = "SunMonTueWedThuFriSat";
        private static final int NAME_LENGTH = 3;

        private final Text out;
        private final Calendar days;
        private long dayCount;
        private int seconds;

        MomentWriter(Text target, Calendar calendarInUse) {
            out = target;
            days = calendarInUse;
        }

        /** Answers whether the value is shown. */
        boolean write(Tokens tokens, Section part, long units) {
            if (units < 0) {
                return false;
            }
            roundToSeconds(units);
            if (dayCount > days.lastSerial()) {
                return false;
            }
            if (part.namesDay && !days.findDay((int) dayCount)) {
                return false;
            }
            for (int i = part.first; i < part.end; i++) {
                writeToken(tokens, i, part.twelveHours);
            }
            return true;
        }

        private void roundToSeconds(long units) {
            dayCount = units / UNITS_IN_ONE;
            long rest = units % UNITS_IN_ONE;
            seconds = (int) ((rest * SECONDS_IN_DAY + UNITS_IN_ONE / 2) / UNITS_IN_ONE);
            if (seconds == SECONDS_IN_DAY) {
                seconds = 0;
                dayCount++;
            }
        }

        private void writeToken(Tokens tokens, int i, boolean twelveHours) {
            int type = tokens.typeAt(i);
            if (type == LITERAL) {
                out.add((char) tokens.valueAt(i));
            } else if (type == ELAPSED) {
                writeElapsed(tokens.valueAt(i));
            } else if (type == MERIDIEM) {
                out.add(hour() < 12 ? 'A' : 'P');
                out.add('M');
            } else if (type == FIELD) {
                writeField(tokens.valueAt(i), tokens.detailAt(i), twelveHours);
            }
        }

        private int hour() {
            return seconds / 3600;
        }

        private void writeElapsed(int letter) {
            long total = dayCount * SECONDS_IN_DAY + seconds;
            if (letter == 'h') {
                out.addNumber(total / 3600, 1);
            } else if (letter == 'm') {
                out.addNumber(total / 60, 1);
            } else {
                out.addNumber(total, 1);
            }
        }

        private void writeField(int letter, int run, boolean twelveHours) {
            if (letter == 'y' || run < NAME_LENGTH) {
                out.addNumber(numberOf(letter, run, twelveHours), run);
            } else if (letter == 'm') {
                writeName(MONTHS, days.month);
            } else {
                writeName(WEEKDAYS, days.weekday);
            }
        }

        private int numberOf(int letter, int run, boolean twelveHours) {
            if (letter == 'y') {
                return run == 2 ? days.year % 100 : days.year;
            }
            if (letter == 'm') {
                return days.month;
            }
            if (letter == 'd') {
                return days.day;
            }
            if (letter == 'h') {
                return twelveHours ? (hour() + 11) % 12 + 1 : hour();
            }
            return letter == MINUTE ? seconds / 60 % 60 : seconds % 60;
        }

        private void writeName(String names, int number) {
            int start = (number - 1) * NAME_LENGTH;
            for (int i = start; i < start + NAME_LENGTH; i++) {
                if (i >= 0 && i < names.length()) {
                    out.add(names.charAt(i));
                }
            }
        }
    }
}
