import java.util.Random;

/**
 * Runs of 512 calls of the whole face in any order, wrong arguments among them, each answer compared with a model of
 * what the object must hold: the code, what is compiled of it, the calendar and what was shown last.
 */
public final class RunsTest {
    private static final int MOST_CALLS = 512;
    private static final int MOST_CODE = 40;
    private static final long MOST_UNITS = 1000000000000000L;
    private static final int RUNS = 4000;

    private final Samples samples;
    private final Random random;
    private CellFormatter x;
    private int calls;
    private String code;
    private Oracle compiled;
    private boolean is1904;
    private String shown;
    private int shownBy;

    private RunsTest(long seed) {
        samples = new Samples(seed);
        random = samples.random;
    }

    public static void main(String[] args) {
        Check.sentence("1 to 12", "An object is used for at most 512 calls after it has been made");
        RunsTest test = new RunsTest(20261116);
        for (int run = 0; run < RUNS; run++) {
            test.run();
        }
        Check.end();
    }

    private void run() {
        x = new CellFormatter();
        calls = 0;
        code = "";
        compiled = null;
        is1904 = false;
        shown = "";
        shownBy = CellFormatter.BAD;
        while (calls < MOST_CALLS) {
            step();
        }
    }

    private void step() {
        switch (random.nextInt(16)) {
            case 0 -> feed((char) random.nextInt(random.nextInt(4) == 0 ? 0x10000 : 160));
            case 1, 2 -> feedNew(random.nextInt(4) == 0 ? samples.rawCode() : samples.someSections());
            case 3 -> erase();
            case 4, 5 -> compile();
            case 6 -> due("sections()", x.sections(), compiled == null ? 0 : compiled.answer);
            case 7 -> kind(any(-1, 3));
            case 8 -> calendar(random.nextBoolean());
            case 9, 10, 11 -> show();
            case 12 -> charAt(any(-1, shown.length()));
            case 13 -> due("section()", x.section(), shownBy);
            case 14 -> date(any(-1, random.nextBoolean() ? 64 : Oracle.lastSerial(is1904) + 1), any(-1, 4));
            default -> serial(any(1899, random.nextBoolean() ? 1905 : 10000), any(0, 13), any(0, 32));
        }
    }

    /** A number between the two, one of their neighbours, or one of the edges of int. */
    private int any(int least, int most) {
        return switch (random.nextInt(12)) {
            case 0 -> random.nextBoolean() ? Integer.MIN_VALUE : Integer.MAX_VALUE;
            case 1 -> least + random.nextInt(3);
            case 2 -> most - random.nextInt(3);
            default -> least + random.nextInt(most - least + 1);
        };
    }

    private void due(String call, long got, long want) {
        calls++;
        Check.due("call " + calls + " on <" + code + ">: " + call, got, want);
    }

    private void feed(char c) {
        boolean taken = c >= 32 && c <= 126 && code.length() < MOST_CODE;
        due("feed(" + (int) c + ")", x.feed(c) ? 1 : 0, taken ? 1 : 0);
        code = taken ? code + c : code;
    }

    /** Mostly in the place of the older code, sometimes behind it. */
    private void feedNew(String text) {
        if (random.nextInt(3) != 0) {
            erase();
        }
        for (int i = 0; i < text.length() && calls < MOST_CALLS; i++) {
            feed(text.charAt(i));
        }
        compile();
    }

    private void erase() {
        if (calls < MOST_CALLS) {
            calls++;
            x.erase();
            code = "";
        }
    }

    private void compile() {
        if (calls < MOST_CALLS) {
            Oracle oracle = new Oracle(code);
            due("compile()", x.compile(), oracle.answer);
            compiled = oracle.answer > 0 ? oracle : null;
        }
    }

    private void kind(int s) {
        due("kind(" + s + ")", x.kind(s), compiled == null ? CellFormatter.BAD : compiled.kind(s));
    }

    private void calendar(boolean newIs1904) {
        calls++;
        x.calendar(newIs1904);
        is1904 = newIs1904;
    }

    private long units() {
        return switch (random.nextInt(20)) {
            case 0 -> MOST_UNITS + 1 - random.nextInt(3);
            case 1 -> -MOST_UNITS - 1 + random.nextInt(3);
            case 2 -> random.nextLong();
            case 3 -> random.nextBoolean() ? Long.MIN_VALUE : Long.MAX_VALUE;
            default -> samples.value();
        };
    }

    private void show() {
        long units = units();
        due("show(" + units + ")", x.show(units), expect(units));
        for (int i = 0; i <= shown.length() && calls < MOST_CALLS; i++) {
            charAt(i);
        }
    }

    /** Sets what must be shown; answers what show must answer. */
    private int expect(long units) {
        shown = "";
        shownBy = CellFormatter.BAD;
        if (compiled == null) {
            return CellFormatter.NOCODE;
        }
        if (units < -MOST_UNITS || units > MOST_UNITS) {
            return CellFormatter.BAD;
        }
        String text = compiled.show(units, is1904);
        if (text == null) {
            return CellFormatter.NOTSHOWN;
        }
        shown = text;
        shownBy = compiled.shownBy;
        return text.length();
    }

    private void charAt(int i) {
        due("charAt(" + i + ")", x.charAt(i), i >= 0 && i < shown.length() ? shown.charAt(i) : 0);
    }

    private void date(int serial, int part) {
        due("date(" + serial + ", " + part + ")", x.date(serial, part), Oracle.date(serial, part, is1904));
    }

    private void serial(int year, int month, int day) {
        due("serial(" + year + ", " + month + ", " + day + ")", x.serial(year, month, day),
            Oracle.serial(year, month, day, is1904));
    }
}
