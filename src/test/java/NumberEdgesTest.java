import java.math.BigDecimal;
import java.math.BigInteger;

/** The section 'Terms' for numbers, and reason 5: each sentence that names a boundary, on both sides of it. */
public final class NumberEdgesTest {
    private static final String MARKS = "()<>[]{}/%";
    private static final String TINY = "1e-60";

    public static void main(String[] args) {
        Due due = new Due();
        whatIsADigit(due);
        signAndDigits(due);
        wholeNumbersOf32Bits(due);
        twoDigitsAtMostAsABase(due);
        basesFrom2To36(due);
        digitsOfTheBase(due);
        below2To32(due);
        onePoint(due);
        exponents(due);
        roundedHalves(due);
        roundedInAllDigits(due);
        greatestReals(due);
        farExponents(due);
        longestNumbers(due);
        due.end();
    }

    private static void whatIsADigit(Due due) {
        due.sentence("DIGITS are 0 .. 9");
        for (char b = 33; b < 256; b++) {
            if (b >= '0' && b <= '9') {
                due.whole("" + b, b - '0');
                due.whole("1" + b, 10 + b - '0');
                due.whole(b + "1", 10 * (b - '0') + 1);
                due.real("." + b + b, (65536 * 11 * (b - '0') + 50) / 100);
            } else if (MARKS.indexOf(b) < 0 && ".+-".indexOf(b) < 0) {
                due.name("" + b);
                due.name("1" + b);
                due.name(b + "1");
                due.name("1." + b);
                due.name("." + b);
                due.name("1e" + b);
            }
        }
    }

    private static void signAndDigits(Due due) {
        due.sentence("perhaps + or -, and digits (a WHOLE number)");
        due.whole("1", 1);
        due.whole("+1", 1);
        due.whole("-1", -1);
        due.whole("0", 0);
        due.whole("+0", 0);
        due.whole("-0", 0);
        due.whole("-007", -7);
        for (String name : new String[] {"+", "-", "++1", "--1", "+-1", "-+1", "1+", "1-", "1+1", "1-1", "+1+", "-a", "+1a", "_1", "\2531", "\2551"}) {
            due.name(name);
        }
    }

    private static void wholeNumbersOf32Bits(Due due) {
        due.sentence("5 a whole number that is not of 32 bits, at its beginning");
        for (String zeros : new String[] {"", "0", Due.times(100, "0")}) {
            due.whole(zeros + "2147483646", Integer.MAX_VALUE - 1);
            due.whole(zeros + "2147483647", Integer.MAX_VALUE);
            due.whole("+" + zeros + "2147483647", Integer.MAX_VALUE);
            due.tooGreat(zeros + "2147483648");
            due.tooGreat("+" + zeros + "2147483648");
            due.whole("-" + zeros + "2147483647", -Integer.MAX_VALUE);
            due.whole("-" + zeros + "2147483648", Integer.MIN_VALUE);
            due.tooGreat("-" + zeros + "2147483649");
        }
        for (int power : new int[] {32, 33, 40, 62, 63, 64, 65, 96, 128, 256}) {
            for (int more = -1; more <= 1; more++) {
                String digits = BigInteger.ONE.shiftLeft(power).add(BigInteger.valueOf(more)).toString();
                due.tooGreat(digits);
                due.tooGreat("-" + digits);
            }
        }
        due.tooGreat(Due.times(127, "9"));
        due.tooGreat("1" + Due.times(126, "0"));
        due.program("{ 2147483648", "-5 @2: 6=-1@0 |");
        due.program("2147483648)", "-5 @0: |");
    }

    private static void twoDigitsAtMostAsABase(Due due) {
        due.sentence("two digits at most, as a base 2 .. 36, #, and digits of that base (at least one)");
        due.name("#1");
        due.whole("8#1", 1);
        due.whole("16#1", 1);
        due.whole("08#1", 1);
        due.name("008#1");
        due.name("016#1");
        due.name("160#1");
        due.name("0000000000000000000016#1");
        due.name("4294967312#1");
        for (String name : new String[] {"+16#1", "-16#1", "16#+1", "16#-1", "16##1", "16#1#", "#16#1", "1.6#1", "1e1#1", "16.#1", "16#1.", "16#.1", "a#1"}) {
            due.name(name);
        }
    }

    private static void basesFrom2To36(Due due) {
        due.sentence("a base 2 .. 36");
        for (int base = 0; base < 100; base++) {
            String two = "" + base / 10 + base % 10;
            for (String digits : base < 10 ? new String[] {two, "" + base} : new String[] {two}) {
                due.name(digits + "#");
                if (base >= 2 && base <= 36) {
                    due.whole(digits + "#0", 0);
                    due.whole(digits + "#1", 1);
                    due.whole(digits + "#10", base);
                } else {
                    due.name(digits + "#0");
                    due.name(digits + "#1");
                    due.name(digits + "#10");
                }
            }
        }
    }

    private static void digitsOfTheBase(Due due) {
        due.sentence("digits of that base (0 .. 9, then a .. z, also A .. Z; at least one)");
        String small = "0123456789abcdefghijklmnopqrstuvwxyz";
        for (int base = 2; base <= 36; base++) {
            for (int d = 0; d < 36; d++) {
                String lower = small.substring(d, d + 1);
                for (String digit : new String[] {lower, lower.toUpperCase()}) {
                    if (d < base) {
                        due.whole(base + "#" + digit, d);
                        due.whole(base + "#1" + digit, base + d);
                        due.whole(base + "#" + digit + "1", base * d + 1);
                    } else {
                        due.name(base + "#" + digit);
                        due.name(base + "#1" + digit);
                        due.name(base + "#" + digit + "1");
                    }
                }
            }
        }
        for (char b = 33; b < 256; b++) {
            if (MARKS.indexOf(b) < 0 && small.indexOf(b) < 0 && small.toUpperCase().indexOf(b) < 0) {
                due.name("36#" + b);
                due.name("36#1" + b);
            }
        }
    }

    private static void below2To32(Due due) {
        due.sentence("its 32 bits if it is below 2^32; 5 with a base: not below 2^32, at its beginning");
        BigInteger limit = BigInteger.ONE.shiftLeft(32);
        for (int base = 2; base <= 36; base++) {
            String begin = base + "#";
            for (long v : new long[] {(1L << 31) - 1, 1L << 31, (1L << 31) + 1, (1L << 32) - 2, (1L << 32) - 1}) {
                String digits = Long.toString(v, base);
                due.whole(begin + digits, (int) v);
                due.whole(begin + digits.toUpperCase(), (int) v);
                due.whole(begin + Due.times(127 - begin.length() - digits.length(), "0") + digits, (int) v);
            }
            for (BigInteger v : new BigInteger[] {limit, limit.add(BigInteger.ONE), limit.shiftLeft(1), limit.shiftLeft(31), limit.shiftLeft(32),
                limit.shiftLeft(32).add(BigInteger.ONE)}) {
                String digits = v.toString(base);
                due.tooGreat(begin + digits);
                due.tooGreat(begin + digits.toUpperCase());
                due.tooGreat(begin + Due.times(127 - begin.length() - digits.length(), "0") + digits);
            }
        }
        due.name("16#100000000g");
        due.name("2#1000000000000000000000000000000002");
        due.program("{ 16#100000000", "-5 @2: 6=-1@0 |");
    }

    private static void onePoint(Due due) {
        due.sentence("perhaps + or -, digits with one . among, before or behind them (at least one digit)");
        due.real("1.5", 98304);
        due.real(".5", 32768);
        due.real("5.", 327680);
        due.real("+1.5", 98304);
        due.real("+.5", 32768);
        due.real("+5.", 327680);
        due.real("-1.5", -98304);
        due.real("-.5", -32768);
        due.real("-5.", -327680);
        due.real("12.25", 802816);
        due.real("0.", 0);
        due.real(".0", 0);
        due.real("-0.", 0);
        due.whole("5", 5);
        for (String name : new String[] {".", "+.", "-.", "..", "1..", "..1", "1..5", "1.5.", ".1.5", "1.2.5", "+-1.5", "--.5", ".+5", ".-5", "1.+5", "1.5+", "1.5-",
            "1.5a", "a1.5", "1,5"}) {
            due.name(name);
        }
    }

    private static void exponents(Due due) {
        due.sentence("perhaps e or E, perhaps + or -, and digits (at least one), or digits without ., and e or E likewise");
        for (String digits : new String[] {"1.5", "1.50", "01.5"}) {
            for (String e : new String[] {"e", "E"}) {
                due.real(digits + e + "1", 983040);
                due.real(digits + e + "+1", 983040);
                due.real(digits + e + "-1", 9830);
                due.real("-" + digits + e + "0", -98304);
                due.real("+" + digits + e + "-0", 98304);
                due.real(digits + e + "001", 983040);
            }
        }
        for (String e : new String[] {"e", "E"}) {
            due.real("15" + e + "0", 983040);
            due.real("15" + e + "-1", 98304);
            due.real("15" + e + "+1", 9830400);
            due.real("-15" + e + "-1", -98304);
            due.real("+15" + e + "-1", 98304);
            due.real("15." + e + "-1", 98304);
            due.real(".15" + e + "1", 98304);
            due.real("0" + e + "0", 0);
            for (String name : new String[] {"1" + e, "1" + e + "+", "1" + e + "-", "1." + e, ".1" + e, "1.5" + e + "-", e + "1", "+" + e + "1", "." + e + "1",
                "-." + e + "1", "1" + e + "++1", "1" + e + "+-1", "1" + e + "1+", "1" + e + "1" + e, "1" + e + "1" + e + "1", "1" + e + "1.", "1" + e + ".1",
                "1" + e + "1.5", "1" + e + e + "1", "1" + e + "1a", "1.5" + e + "a", "1" + e + "#1"}) {
                due.name(name);
            }
        }
    }

    private static void roundedHalves(Due due) {
        due.sentence("what it says times 65536, rounded to the greatest whole number not above x + 1/2");
        BigDecimal tiny = new BigDecimal(TINY);
        for (int k : new int[] {0, 1, 2, 3, 4, 7, 10, 6553, 32767, 32768, 65534, 65535, 65536, 65537, 1000000, 16777216, 16777217, 2147418111, 2147483645,
            2147483646}) {
            BigDecimal exact = units(new BigDecimal(k));
            BigDecimal half = units(new BigDecimal(k + ".5"));
            due.real(written(exact), k);
            due.real("-" + written(exact), -k);
            due.real(written(exact.add(tiny)), k);
            due.real("-" + written(exact.add(tiny)), -k);
            due.real(written(half.subtract(tiny)), k);
            due.real("-" + written(half.subtract(tiny)), -k);
            due.real(written(half), k + 1);
            due.real("-" + written(half), -k);
            due.real(written(half.add(tiny)), k + 1);
            due.real("-" + written(half.add(tiny)), -k - 1);
        }
    }

    private static BigDecimal units(BigDecimal x) {
        return x.divide(new BigDecimal(65536));
    }

    private static String written(BigDecimal x) {
        String plain = x.toPlainString();
        return plain.contains(".") ? plain : plain + ".";
    }

    /** Half of a 65536th is 762939453125e-17; the row's very last digit may be what tells the sides apart. */
    private static void roundedInAllDigits(Due due) {
        due.sentence("rounded to the greatest whole number not above x + 1/2: no digit of the row is left out");
        due.real("762939453125e-17", 1);
        due.real("762939453124e-17", 0);
        due.real("-762939453125e-17", 0);
        due.real("-762939453126e-17", -1);
        String digits = "762939453125";
        due.real(digits + Due.times(109, "0") + "e-126", 1);
        due.real("-" + digits + Due.times(108, "0") + "e-125", 0);
        due.real("-" + digits + Due.times(107, "0") + "1e-125", -1);
        due.real("762939453124" + Due.times(109, "9") + "e-126", 0);
        due.real("." + Due.times(5, "0") + "762939453124" + Due.times(109, "9"), 0);
        due.real("-." + Due.times(5, "0") + digits + Due.times(107, "0") + "1", -1);
        due.real("-." + Due.times(5, "0") + digits + Due.times(108, "0"), 0);
        due.real("-." + Due.times(104, "0") + digits + "1e99", -1);
        due.real("-." + Due.times(104, "0") + digits + "0e99", 0);
    }

    private static void greatestReals(Due due) {
        due.sentence("5 a real that is not below 32768 in size when it is rounded, at its beginning");
        BigDecimal tiny = new BigDecimal(TINY);
        BigDecimal last = units(new BigDecimal("2147483647.5"));
        due.real(written(units(new BigDecimal(2147483647))), 2147483647);
        due.real("-" + written(units(new BigDecimal(2147483647))), -2147483647);
        due.real(written(last.subtract(tiny)), 2147483647);
        due.tooGreat(written(last));
        due.tooGreat(written(last.add(tiny)));
        due.real("-" + written(last.subtract(tiny)), -2147483647);
        due.real("-" + written(last), -2147483647);
        due.tooGreat("-" + written(last.add(tiny)));
        for (String row : new String[] {"32767.999999", "32768.0", "32768.", "32768.5", "32769.", "40000.", "65535.5", "65536.", "65537.", "98304.", "100000.",
            "131071.", "4294967296.", "4294967297.5", "281474976710656.", "18446744073709551616.", "18446744073709551617.5", "32768e0", "327680e-1", "3.2768e4"}) {
            due.tooGreat(row);
            due.tooGreat("-" + row);
            due.tooGreat("+" + row);
        }
        due.real("32767.", 2147418112);
        due.real("-32767.", -2147418112);
        due.real("000000032767.5", 2147450880);
        due.program("{ 32768.", "-5 @2: 6=-1@0 |");
    }

    private static void farExponents(Due due) {
        due.sentence("what it says times 65536: an exponent of any size");
        due.real("1e4", 655360000);
        due.real("3e4", 1966080000);
        due.tooGreat("4e4");
        due.tooGreat("1e5");
        due.tooGreat("-1e5");
        due.real("1e-4", 7);
        due.real("1e-5", 1);
        due.real("8e-6", 1);
        due.real("7e-6", 0);
        due.real("1e-6", 0);
        due.real("-1e-5", -1);
        due.real("-8e-6", -1);
        due.real("-7e-6", 0);
        for (String far : new String[] {"10", "99", "100", "126", "127", "160", "300", "308", "309", "324", "999", "1000", "1001", "32768", "65536", "65537",
            "2147483647", "2147483648", "2147483649", "4294967295", "4294967296", "4294967297", "9223372036854775808", "18446744073709551615",
            "18446744073709551616", "18446744073709551617", Due.times(100, "9")}) {
            due.tooGreat("1e" + far);
            due.tooGreat("-.1e" + far);
            due.tooGreat("1.e+" + far);
            due.real("1e-" + far, 0);
            due.real("-1e-" + far, 0);
            due.real("9.9E-" + far, 0);
            due.real("0e" + far, 0);
            due.real("-0.0e" + far, 0);
            due.real(".0e-" + far, 0);
        }
        for (int zeros : new int[] {1, 9, 50, 100, 118}) {
            due.real("1" + Due.times(zeros, "0") + "e-" + zeros, 65536);
            due.real("." + Due.times(zeros, "0") + "1e" + (zeros + 1), 65536);
            due.real("." + Due.times(zeros, "0") + "1e" + (zeros + 5), 655360000);
            due.tooGreat("." + Due.times(zeros, "0") + "1e" + (zeros + 6));
            due.tooGreat("1" + Due.times(zeros, "0") + "e" + (5 - zeros));
            due.real("3" + Due.times(zeros, "0") + "e-" + (zeros + 5), 2);
        }
    }

    private static void longestNumbers(Due due) {
        due.sentence("A ROW .. at most 127. As a WORD it is a number, if it is one of these");
        due.whole(Due.times(126, "0") + "7", 7);
        due.program(Due.times(127, "0") + "7", "-6 @0: |");
        due.whole("-" + Due.times(125, "0") + "7", -7);
        due.program("-" + Due.times(126, "0") + "7", "-6 @0: |");
        due.whole("16#" + Due.times(123, "0") + "f", 15);
        due.program("16#" + Due.times(124, "0") + "f", "-6 @0: |");
        due.real(Due.times(126, "0") + ".", 0);
        due.program(Due.times(127, "0") + ".", "-6 @0: |");
        due.real("1e" + Due.times(124, "0") + "4", 655360000);
        due.program("1e" + Due.times(125, "0") + "4", "-6 @0: |");
        due.real("1." + Due.times(125, "0"), 65536);
        due.program("1." + Due.times(126, "0"), "-6 @0: |");
    }
}
