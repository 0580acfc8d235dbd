/** The sentences of the terms on the code, its sections and its tokens; a test for each. Promises 2, 4, 6 and 8. */
public final class TokensTest {
    private static final String FIRST_TO_LAST = allCharacters();

    public static void main(String[] args) {
        lengthAndCharacters();
        oneToThreeSections();
        emptySections();
        asLongAsCanBe();
        quoted();
        escaped();
        spaces();
        semicolonsAsLiterals();
        itself();
        places();
        marks();
        exponents();
        conditions();
        conditionNumbers();
        elapsed();
        fields();
        meridiem();
        everythingElse();
        Check.end();
    }

    private static String allCharacters() {
        StringBuilder all = new StringBuilder();
        for (char c = 32; c <= 126; c++) {
            all.append(c);
        }
        return all.toString();
    }

    private static void lengthAndCharacters() {
        Check.sentence("2 and 4", "THE CODE is a row of at most 40 characters 32 .. 126.");
        CellFormatter x = Check.compiled("\"" + "~ ".repeat(19) + "\"");
        Check.due("one more", x.feed(' '), false);
        Check.due("the first and the last character", Check.shown(x, 0), "~ ".repeat(19));
        Check.due("below the first", new CellFormatter().feed((char) 31), false);
        Check.due("behind the last", new CellFormatter().feed((char) 127), false);
    }

    private static void oneToThreeSections() {
        Check.sentence("4", "A code is a row of one to three SECTIONS with semicolons between them.");
        Check.compiles("-", 1);
        Check.compiles("-;-", 2);
        Check.compiles("-;-;-", 3);
        Check.compiles("-;-;-;-", -200);
    }

    private static void emptySections() {
        Check.sentence("4 and 8", "A section is a row (perhaps empty) of TOKENS");
        String[] codes = {"", ";", ";;", "0;", ";0", "0;;", ";0;", ";;0"};
        for (String code : codes) {
            int sections = code.replace("0", "").length() + 1;
            CellFormatter x = Check.compiled(code);
            Check.due("sections of " + code, x.sections(), sections);
            int at = 0;
            for (int s = 0; s < sections; s++) {
                boolean number = at < code.length() && code.charAt(at) == '0';
                Check.due("kind " + s + " of " + code, x.kind(s), number ? 1 : 0);
                at += number ? 2 : 1;
            }
        }
        Check.shows("", "1", "");
        Check.shows("0;", "-1", "");
        Check.shows("0;;", "0", "");
        Check.shows(";;0", "1", "");
    }

    private static void asLongAsCanBe() {
        Check.sentence("4 and 8", "they are told apart from the left, each as long as it can be");
        Check.shows("yyyy", "36526", "2000");
        Check.shows("mmm", "36526", "Jan");
        Check.shows("ddd", "36526", "Sat");
        Check.shows("dd", "36526", "01");
        Check.shows("hhmmss", "0.043044", "010159");
        Check.shows("\\yyy", "36526", "y00");
        Check.shows("\\\"\"y\"", "1", "\"y");
        Check.shows("\"a\"\"b\"", "1", "ab");
        Check.shows("_\\0", "1", " 1");
        Check.shows("\\_0", "1", "_1");
        Check.shows("[<=0]\"a\";\"b\"", "0", "a");
        Check.shows("[<>0]\"a\";\"b\"", "1", "a");
        Check.fault("yyyyyy", 0);
    }

    private static void quoted() {
        Check.sentence("4 and 8", "\" any characters (perhaps none) but a \" and then \" : "
            + "LITERALS, these characters.");
        Check.shows("\"\"", "1", "");
        Check.shows("\"\"\"\"", "1", "");
        Check.shows("\"" + "x".repeat(38) + "\"", "1", "x".repeat(38));
        for (char c : FIRST_TO_LAST.toCharArray()) {
            if (c != '"') {
                Check.shows("\"" + c + "\"", "1", "" + c);
            }
        }
        Check.fault("\"", 0);
        Check.fault("\"" + "x".repeat(39), 0);
        Check.fault("\"\"\"", 2);
        Check.fault("0\"abc", 1);
        Check.illMade("\"\"[<1]0", 0);
        Check.illMade("0\"\",", 0);
    }

    private static void escaped() {
        Check.sentence("4 and 8", "\\ and any character: that one as a literal.");
        for (char c : FIRST_TO_LAST.toCharArray()) {
            Check.shows("\\" + c, "1", "" + c);
        }
        Check.fault("\\", 0);
        Check.fault("0\\", 1);
        Check.fault("\\\\\\", 2);
        Check.fault(" ".repeat(39) + "\\", 39);
    }

    private static void spaces() {
        Check.sentence("4 and 8", "_ and any character: a space as a literal.");
        for (char c : FIRST_TO_LAST.toCharArray()) {
            Check.shows("_" + c, "1", " ");
        }
        Check.fault("_", 0);
        Check.fault("0_", 1);
        Check.fault("___", 2);
        Check.fault(" ".repeat(39) + "_", 39);
    }

    private static void semicolonsAsLiterals() {
        Check.sentence("4 and 8", "(A semicolon in one of these three is a character like others.)");
        Check.compiles("\";\"", 1);
        Check.compiles("\\;", 1);
        Check.compiles("_;", 1);
        Check.compiles("\";;;\"\\;_;;0", 2);
        Check.shows("\";;;\"\\;_;;0", "1", ";;;; ");
        Check.shows("\"a;b\";\\;0", "-1", ";1");
    }

    private static void itself() {
        Check.sentence("4 and 8", "One of space ! $ & ' ( ) + - / : = ^ { } ~ : itself as a literal.");
        String literals = " !$&'()+-/:=^{}~";
        Check.shows(literals, "1", literals);
        for (char c : literals.toCharArray()) {
            Check.shows("" + c, "1", "" + c);
            Check.shows("0" + c, "1", "1" + c);
            Check.shows("d" + c, "1", "1" + c);
        }
    }

    private static void places() {
        Check.sentence("4 and 6", "0 # ? : PLACES.");
        for (String place : new String[] {"0", "#", "?"}) {
            Check.due("kind of " + place, Check.compiled(place).kind(0), 1);
            Check.due("kind of many " + place, Check.compiled(place.repeat(40)).kind(0), 1);
        }
        for (char digit = '1'; digit <= '9'; digit++) {
            Check.fault("0" + digit, 1);
        }
    }

    private static void marks() {
        Check.sentence("4 and 8", ". : the POINT.    , : a COMMA.    % : a PERCENT.");
        Check.illMade(".", 0);
        Check.illMade(",", 0);
        Check.illMade("%", 0);
        Check.shows("0.", "1", "1.");
        Check.shows("0,", "1000", "1");
        Check.shows("0%", "0.01", "1%");
    }

    private static void exponents() {
        Check.sentence("4 and 8", "E+ or E- : the EXPONENT.");
        Check.shows("0E+0", "1", "1E+0");
        Check.shows("0E-0", "1", "1E0");
        Check.illMade("E+", 0);
        Check.illMade("E-", 0);
        Check.fault("E", 0);
        Check.fault("0E", 1);
        Check.fault("0E0", 1);
        Check.fault("0E 0", 1);
        Check.fault("0e+0", 1);
        Check.fault("0".repeat(39) + "E", 39);
    }

    private static void conditions() {
        Check.sentence("4", "[ then one of < <= > >= = <>");
        for (String test : new String[] {"<", "<=", ">", ">=", "=", "<>"}) {
            Check.compiles("[" + test + "1]", 1);
            Check.compiles("[" + test + "-1]", 1);
            Check.fault("[" + test + "1", 0);
            Check.fault("[" + test, 0);
            Check.fault(" ".repeat(40 - test.length() - 1) + "[" + test, 40 - test.length() - 1);
            Check.fault("[ " + test + "1]", 0);
            Check.fault("[" + test + " 1]", 0);
        }
        for (String test : new String[] {"", "==", "><", "=<", "=>", "<<", ">>", "<==", "<>=", "!=", "!", "~"}) {
            Check.fault("[" + test + "1]", 0);
        }
        Check.fault("[", 0);
        Check.fault("[]", 0);
        Check.fault("0<", 1);
        Check.fault("0>1]", 1);
    }

    private static void conditionNumbers() {
        Check.sentence("4 and 8", "a number of one to six digits, perhaps with a - before it, and ]: a CONDITION.");
        Check.fault("[=]", 0);
        Check.fault("[=-]", 0);
        Check.compiles("[=0]", 1);
        Check.compiles("[=-0]", 1);
        Check.compiles("[=999999]", 1);
        Check.compiles("[=-999999]", 1);
        Check.fault("[=1000000]", 0);
        Check.fault("[=-1000000]", 0);
        Check.fault("[=0000001]", 0);
        Check.fault("[=--1]", 0);
        Check.fault("[=+1]", 0);
        Check.fault("[=1-]", 0);
        Check.fault("[=1.5]", 0);
        Check.fault("[=1 ]", 0);
        Check.fault("[=a]", 0);
        Check.fault("[=/]", 0);
        Check.fault("[=:]", 0);
        Check.fault("[=1]]", 4);
        Check.fault("[=1", 0);
        Check.shows("[=999999]\"y\";\"n\"", "999999", "y");
        Check.shows("[=999999]\"y\";\"n\"", "999998.999999", "n");
        Check.shows("[=-999999]\"y\";\"n\"", "-999999", "-y");
        Check.shows("[=-999999]\"y\";\"n\"", "-999999.000001", "-n");
        Check.shows("[=-0]\"y\";\"n\"", "0", "y");
        Check.shows("[=000007]\"y\";\"n\"", "7", "y");
        Check.shows("[=123456]\"y\";\"n\"", "123456", "y");
    }

    private static void elapsed() {
        Check.sentence("4 and 6", "[h] [m] [s]: ELAPSED hours, minutes, seconds.");
        for (String field : new String[] {"[h]", "[m]", "[s]"}) {
            Check.due("kind of " + field, Check.compiled(field).kind(0), 2);
        }
        String[] none = {"[hh]", "[mm]", "[ss]", "[mmm]", "[d]", "[y]", "[yy]", "[H]", "[h", "[m", "[s", "[ h]", "[h ]",
            "[h;]", "[n]", "[]"};
        for (String code : none) {
            Check.fault(code, 0);
            Check.fault("-" + code, 1);
        }
        Check.fault(" ".repeat(38) + "[h", 38);
        Check.fault("[h]]", 3);
    }

    private static void fields() {
        Check.sentence("4 and 6", "yy yyyy m mm mmm d dd ddd h hh s ss: FIELDS "
            + "(a run of one of these letters is one token, whatever its length; other lengths are no token).");
        String letters = "ymdhs";
        String[] lengths = {"24", "123", "123", "12", "12"};
        for (int i = 0; i < letters.length(); i++) {
            String letter = letters.substring(i, i + 1);
            for (int run = 1; run <= 40; run++) {
                boolean stands = run < 10 && lengths[i].indexOf('0' + run) >= 0;
                Check.compiles(letter.repeat(run), stands ? 1 : -100);
                if (run < 40) {
                    Check.compiles("-" + letter.repeat(run), stands ? 1 : -101);
                    Check.compiles(letter.repeat(run) + "-", stands ? 1 : -100);
                }
                if (stands) {
                    Check.due("kind of " + letter.repeat(run), Check.compiled(letter.repeat(run)).kind(0), 2);
                }
            }
            Check.fault(letter.toUpperCase(), 0);
        }
        Check.compiles("yy;yy", 2);
        Check.compiles("yy-yy", 1);
        Check.compiles("mmmdddmmm", 1);
        Check.fault("mmmddddmmm", 3);
    }

    private static void meridiem() {
        Check.sentence("4 and 6", "AM/PM: the MERIDIEM, a field too; so are the elapsed ones.");
        Check.due("kind", Check.compiled("AM/PM").kind(0), 2);
        String[] none = {"A", "AM", "AM/", "AM/P", "A/P", "AM/AM", "PM/AM", "am/pm", "AM\\PM", "AMPM", "PM", "AM/Pm"};
        for (String code : none) {
            Check.fault(code, 0);
            Check.fault("h " + code, 2);
        }
        Check.fault("AM/PMM", 5);
        Check.compiles("AM/PMAM/PM", 1);
        Check.fault(" ".repeat(36) + "AM/P", 36);
        Check.compiles(" ".repeat(35) + "AM/PM", 1);
    }

    private static void everythingElse() {
        Check.sentence("4", "Everything else is no token.");
        String none = "\"*1234567@<>ABCDEFGHIJKLMNOPQRSTUVWXYZ[\\]_`abcefgijklnopqrtuvwxyz|89y";
        String alone = " !$&'()+-/:=^{}~0#?mdhs";
        String illMade = ".,%";
        for (char c : FIRST_TO_LAST.toCharArray()) {
            int want = c == ';' ? 2 : alone.indexOf(c) >= 0 ? 1 : illMade.indexOf(c) >= 0 ? -201 : -100;
            Check.compiles("" + c, want);
            Check.due(c + " begins no token", want == -100, none.indexOf(c) >= 0);
        }
    }
}
