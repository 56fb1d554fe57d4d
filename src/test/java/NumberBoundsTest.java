/** The boundary cases of a NUMBER in the first term; a method for each sentence, which stands above it. */
public final class NumberBoundsTest {
    private static final String SIXTY = "1234567890".repeat(6);

    public static void main(String[] args) {
        checkWhole();
        checkFraction();
        checkPower();
        checkDigitsBefore();
        checkDigitsBehind();
        checkDigits();
        checkZero();
        checkExponents();
        Bench.end();
    }

    /** "perhaps -, then 0 or digits of which the first is not 0" */
    private static void checkWhole() {
        for (String text : new String[] {"0", "-0", "1", "-1", "9", "-9", "10", "-90", "1000000000"}) {
            Reading.taken(text, 1);
        }
        Reading.refused("00", 1);
        Reading.refused("-00", 2);
        Reading.refused("01", 1);
        Reading.refused("-01", 2);
        Reading.refused("-", 1);
        Reading.refused("--1", 1);
        Reading.refused("+1", 0);
        Reading.refused("+", 0);
        Reading.refused("-+1", 1);
        Reading.refused("-a", 1);
        Reading.refused("-/", 1);
        Reading.refused("-:", 1);
        Reading.refused("/", 0);
        Reading.refused(":", 0);
        Reading.refused("1a", 1);
        Reading.refused("1-", 1);
        Reading.refused("1/", 1);
        Reading.refused("1:", 1);
        Reading.refused("0x1", 1);
        Reading.refused("[-]", 2);
        Reading.refused("[01]", 2);
    }

    /** "perhaps "." and digits" */
    private static void checkFraction() {
        for (String text : new String[] {"0.0", "0.5", "-0.00", "1.9", "10.01"}) {
            Reading.taken(text, 1);
        }
        Reading.refused("1.", 2);
        Reading.refused("[1.]", 3);
        Reading.refused("0.", 2);
        Reading.refused("-0.", 3);
        Reading.refused(".5", 0);
        Reading.refused("-.5", 1);
        Reading.refused("1..5", 2);
        Reading.refused("1.5.5", 3);
        Reading.refused("1.-5", 2);
        Reading.refused("1.e5", 2);
        Reading.refused("1.x", 2);
        Reading.refused("1,5", 1);
    }

    /** "perhaps e or E, perhaps + or -, and digits" */
    private static void checkPower() {
        for (String text : new String[] {"1e0", "1E0", "1e+0", "1E-0", "1.5e+00", "-0e-000", "0E9", "1e01"}) {
            Reading.taken(text, 1);
        }
        Reading.refused("1e", 2);
        Reading.refused("1E", 2);
        Reading.refused("1e+", 3);
        Reading.refused("1e-", 3);
        Reading.refused("[1e]", 3);
        Reading.refused("[1e+]", 4);
        Reading.refused("1e++1", 3);
        Reading.refused("1e-+1", 3);
        Reading.refused("1ee1", 2);
        Reading.refused("1e1e1", 3);
        Reading.refused("1e1.5", 3);
        Reading.refused("1e1-", 3);
        Reading.refused("1e.5", 2);
        Reading.refused("e5", 0);
        Reading.refused("-e5", 1);
        Reading.refused("1d5", 1);
        Reading.refused("1f5", 1);
        Reading.refused("1D5", 1);
        Reading.refused("1F5", 1);
    }

    /** "at most 60 digits before the e ... (with more it is WRONG where it begins)" */
    private static void checkDigitsBefore() {
        for (String sign : new String[] {"", "-"}) {
            Reading.taken(sign + SIXTY, 1);
            Reading.taken(sign + SIXTY + "e999", 1);
            Reading.taken(sign + SIXTY.substring(1) + ".1", 1);
            Reading.taken(sign + "1." + SIXTY.substring(1), 1);
            Reading.taken(sign + "0." + "0".repeat(59), 1);
            Reading.taken(sign + "1" + "0".repeat(59), 1);
            Reading.refused(sign + SIXTY + "1", 0);
            Reading.refused(sign + SIXTY + "0", 0);
            Reading.refused(sign + SIXTY + "1e1", 0);
            Reading.refused(sign + SIXTY + ".1", 0);
            Reading.refused(sign + SIXTY + ".0e1", 0);
            Reading.refused(sign + "1." + SIXTY, 0);
            Reading.refused(sign + "0." + "0".repeat(60), 0);
            Reading.refused(sign + "0." + "0".repeat(59) + "1", 0);
            Reading.refused(sign + "1" + "0".repeat(60), 0);
            Reading.refused("[1, " + sign + SIXTY + "1]", 4);
            Reading.refused("{\"a\":" + sign + SIXTY + ".5}", 5);
        }
        Reading.refused("9".repeat(8192), 0);
        Reading.refused("1." + "9".repeat(8190), 0);
        // 60 digits are not too many: what is WRONG behind them is WRONG there.
        Reading.refused(SIXTY + ".", 61);
        Reading.refused(SIXTY + ".x", 61);
        Reading.refused(SIXTY + "x", 60);
        Reading.refused(SIXTY + "e", 61);
        // 61 are, whatever comes behind them.
        Reading.refused(SIXTY + "1x", 0);
        Reading.refused(SIXTY + "1.x", 0);
        Reading.refused(SIXTY + "1ex", 0);
        Reading.refused("0" + SIXTY, 1);
        Reading.taken("[" + SIXTY + "," + SIXTY + "]", 3);
    }

    /** "and 3 behind it (with more it is WRONG where it begins)" */
    private static void checkDigitsBehind() {
        for (String power : new String[] {"e", "E", "e+", "E+", "e-", "E-"}) {
            Reading.taken("1" + power + "999", 1);
            Reading.taken("1" + power + "000", 1);
            Reading.refused("1" + power + "1000", 0);
            Reading.refused("1" + power + "0000", 0);
            Reading.refused("1" + power + "0001", 0);
            Reading.refused("[1, -2.5" + power + "1234]", 4);
            Reading.refused("1" + power + "9999999999999999999999", 0);
            Reading.refused("1" + power + "1000x", 0);
            Reading.refused("1" + power + "999x", power.length() + 4);
        }
    }

    private static void number(String text, String digits, int exponent, int sign) {
        Run run = Reading.taken("[0," + text + "]", 3);
        run.takes("kind of " + text, twin -> twin.value(1, 2, 0), JsonTwin.NUMBER);
        run.takes("DIGITS of " + text, twin -> twin.value(1, 2, 3), digits.length());
        run.takes("EXPONENT of " + text, twin -> twin.value(1, 2, 4), exponent);
        run.takes("sign of " + text, twin -> twin.value(1, 2, 5), sign);
        for (int k = 0; k < digits.length(); k++) {
            int place = k;
            run.takes("DIGIT " + k + " of " + text, twin -> twin.letter(1, 2, place), digits.charAt(k) - '0');
        }
        run.refuses("DIGIT before the first of " + text, twin -> twin.letter(1, 2, -1), Bench.INDEX);
        run.refuses("DIGIT behind the last of " + text, twin -> twin.letter(1, 2, digits.length()), Bench.INDEX);
    }

    /** "A NUMBER has DIGITS, without zeros at their front and end" */
    private static void checkDigits() {
        number("1", "1", 0, 0);
        number("10", "1", 1, 0);
        number("101", "101", 0, 0);
        number("1010", "101", 1, 0);
        number("0.1", "1", -1, 0);
        number("0.010", "1", -2, 0);
        number("1.0", "1", 0, 0);
        number("1.10", "11", -1, 0);
        number("10.0", "1", 1, 0);
        number("10.01", "1001", -2, 0);
        number("1" + "0".repeat(59), "1", 59, 0);
        number("1" + "0".repeat(58) + "1", "1" + "0".repeat(58) + "1", 0, 0);
        number("0." + "0".repeat(58) + "1", "1", -59, 0);
        number("-" + SIXTY, SIXTY.substring(0, 59), 1, 1);
        number("9".repeat(60), "9".repeat(60), 0, 0);
    }

    /** "(of 0: none) ... (0 of 0), with a sign (of 0 none)" */
    private static void checkZero() {
        for (String text : new String[] {"0", "-0", "0.0", "-0.0", "0e5", "-0e-5", "0.00E+999", "-0.000e-999", "0." + "0".repeat(59)}) {
            number(text, "", 0, 0);
        }
        number("-0.1", "1", -1, 1);
        number("-1e-999", "1", -999, 1);
    }

    /** "an EXPONENT: it is DIGITS * 10 ** EXPONENT" */
    private static void checkExponents() {
        number("1e0", "1", 0, 0);
        number("1e1", "1", 1, 0);
        number("1e-1", "1", -1, 0);
        number("10e-1", "1", 0, 0);
        number("0.1e1", "1", 0, 0);
        number("1e999", "1", 999, 0);
        number("1e-999", "1", -999, 0);
        number("10e999", "1", 1000, 0);
        number("0.1e-999", "1", -1000, 0);
        number("-1" + "0".repeat(59) + "e999", "1", 1058, 1);
        number("-0." + "0".repeat(58) + "1E-999", "1", -1058, 1);
        number("1." + "0".repeat(58) + "1e-999", "1" + "0".repeat(58) + "1", -1058, 0);
        number("1e010", "1", 10, 0);
    }
}
