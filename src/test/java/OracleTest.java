/** Compares the program with the oracle on many codes and values. Promises 4 to 8 and 10. */
public final class OracleTest {
    private final Samples samples = new Samples(20261115);
    private int good = 0;
    private int shown = 0;

    public static void main(String[] args) {
        OracleTest test = new OracleTest();
        for (int i = 0; i < 90000; i++) {
            test.compare(test.samples.rawCode());
            test.compare(test.samples.someSections());
        }
        Check.due("many codes are well made", test.good > 30000, true);
        Check.due("many values are shown", test.shown > 200000, true);
        Check.end();
    }

    private void compare(String code) {
        CellFormatter x = new CellFormatter();
        if (samples.random.nextBoolean()) {
            // What is compiled from an older code must leave no trace.
            Check.recompile(x, samples.someSections());
            x.erase();
        }
        Check.feedAll(x, code);
        Oracle oracle = new Oracle(code);
        Check.due("compile of " + code, x.compile(), oracle.answer);
        Check.due("sections of " + code, x.sections(), Math.max(0, oracle.answer));
        for (int s = -1; s <= 3; s++) {
            Check.due("kind " + s + " of " + code, x.kind(s), oracle.kind(s));
        }
        if (oracle.answer < 0) {
            Check.due("show of " + code, x.show(0), CellFormatter.NOCODE);
            return;
        }
        good++;
        for (int i = 0; i < 4; i++) {
            boolean is1904 = samples.random.nextBoolean();
            x.calendar(is1904);
            long units = samples.value();
            String want = oracle.show(units, is1904);
            Check.due(code + " of " + units + (is1904 ? " in 1904" : ""), Check.shown(x, units), want);
            Check.due("section of " + code + " of " + units, x.section(), oracle.shownBy);
            shown += want == null ? 0 : 1;
        }
    }
}
