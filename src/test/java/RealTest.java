/** Promise 7 for reals: which rows are reals, and what they are when they are rounded. */
public final class RealTest {
    public static void main(String[] args) {
        Due due = new Due();
        forms(due);
        names(due);
        rounding(due);
        greatest(due);
        exponents(due);
        oneAfterTheOther(due);
        due.end();
    }

    private static void forms(Due due) {
        for (String one : new String[] {"1.", "+1.", "1.0", "01.00", "1e0", "1E0", "+1e0", "1e+0", "1e-0", "1E-000", "1.e0", "1.0e0",
            "10e-1", "10.e-1", ".1e1", "+.1e1", "0.1e+01", "0.01E2"}) {
            due.real(one, 65536);
        }
        for (String one : new String[] {"-1.", "-1.0", "-1e0", "-.1E1", "-10e-1", "-01.0e0"}) {
            due.real(one, -65536);
        }
        for (String none : new String[] {"0.", ".0", "-.0", "-0.0", "0e0", "-0e5", "0.0e-5", "+.0E+9"}) {
            due.real(none, 0);
        }
    }

    private static void names(Due due) {
        for (String name : new String[] {".", "+.", "-.", "..", "1..", "1.2.3", ".1.", ".e1", "-.e1", "e1", "E1", "-e1", "1e", "1E", "1e+",
            "1e-", "1.e", ".5e", "1e+-1", "1e1.", "1e1.5", "1e1e1", "1ee1", "1e1x", "1.5x", "1.-5", "1.+", "--1.5", "1f5", "1.5f", "1.5d",
            "1e5#1", "1.5e99999x", "1,5", "1.:", "1.5:", "1.5\\", "1e:", "1e1:", "-", "+", "1.e+x"}) {
            due.name(name);
        }
    }

    private static void rounding(Due due) {
        due.real("3.14159", 205887);
        due.real("-3.14159", -205887);
        due.real("0.1", 6554);
        due.real("-0.1", -6554);
        due.real("0.00000762939453125", 1);
        due.real("-0.00000762939453125", 0);
        due.real("0.00000762939453124", 0);
        due.real("-0.00000762939453124", 0);
        due.real("-0.00000762939453126", -1);
        due.real("-0.000007781982421875", -1);
        due.real("-0.000007476806640625", 0);
        due.real("0.000007476806640625", 0);
        due.real("0.0000152587890625", 1);
        due.real("-0.0000152587890625", -1);
        due.real("0.00002288818359375", 2);
        due.real("-0.00002288818359375", -1);
        due.real("-0.000022888183593750000000000000000000000000000000000000000001", -2);
        due.real("0.000022888183593749999999999999999999999999999999999999999999", 1);
        due.real("-1.00000762939453125", -65536);
        due.real("1.00000762939453125", 65537);
        String half = "0.00000762939453125";
        due.real("-" + half + Due.times(125 - half.length(), "0") + "1", -1);
        due.real("+" + half + Due.times(126 - half.length(), "0"), 1);
        due.real("-" + half + Due.times(126 - half.length(), "0"), 0);
        due.real("." + Due.times(126, "0"), 0);
        due.real("." + Due.times(126, "9"), 65536);
    }

    private static void greatest(Due due) {
        due.real("32767.0", 2147418112);
        due.real("-32767.0", -2147418112);
        due.real("32767.9999923706054687", Integer.MAX_VALUE);
        due.real("32767.99999237060546874999999999999999999999999999", Integer.MAX_VALUE);
        due.real("-32767.9999923706054687", -Integer.MAX_VALUE);
        due.real("-32767.99999237060546875", -Integer.MAX_VALUE);
        for (String row : new String[] {"32767.99999237060546875", "-32767.99999237060546875000000000000000001", "32768.", "-32768.",
            "-32768e0", "65536.", "65535.99999", "99999.9", "100000.", "131072.5", "3.2768e4", "1e5", "1e9", "-1e9", "281474976710656.",
            "1" + Due.times(124, "0") + ".", "1e99999999999999999999", "1e2147483648", "1e4294967296", "1e18446744073709551616",
            "." + Due.times(100, "0") + "1e106", "0.1e1000", "." + Due.times(118, "0") + "1e" + "99999"}) {
            due.tooGreat(row);
        }
    }

    private static void exponents(Due due) {
        due.real("32767e0", 2147418112);
        due.real("3276.7e1", 2147418112);
        due.real("327670000e-4", 2147418112);
        due.real("0.00032767E+8", 2147418112);
        due.real("99999e-5", 65535);
        due.real("1e4", 655360000);
        due.real("-1e4", -655360000);
        due.real("1e-1", 6554);
        due.real("1e-5", 1);
        due.real("8e-6", 1);
        due.real("7e-6", 0);
        due.real("-8e-6", -1);
        due.real("1e-6", 0);
        due.real("9e-99999999999999999999999", 0);
        due.real("-9e-2147483649", 0);
        due.real("-9e-4294967296", 0);
        due.real("0e99999999999999999999999", 0);
        due.real("0.000e99999999999999999999999", 0);
        due.real("1e0000000000000000000000000000000004", 655360000);
        due.real("1e-0000000000000000000000000000000001", 6554);
        due.real("1" + Due.times(100, "0") + "e-100", 65536);
        due.real("1" + Due.times(100, "0") + "e-96", 655360000);
        due.real("." + Due.times(100, "0") + "1e101", 65536);
        due.real("." + Due.times(100, "0") + "1e105", 655360000);
        due.real("-." + Due.times(100, "0") + "762939453125e95", 0);
        due.real("-." + Due.times(100, "0") + "762939453126e95", -1);
        due.real(Due.times(121, "9") + "e-121", 65536);
        due.real(Due.times(121, "9") + "e-200", 0);
        due.real("123456789" + Due.times(100, "0") + "e-105", 80908641);
    }

    private static void oneAfterTheOther(Due due) {
        due.program("1e4 .25 1e-4 -.5", "4 @16: 2=655360000@0 2=16384@4 2=7@8 2=-32768@13 |");
        due.program("0.123456789 .5 -.00000762939453125 -1.", "4 @38: 2=8091@0 2=32768@12 2=0@15 2=-65536@35 |");
        due.program("-1.5 2 2.5 -7 16#10", "5 @19: 2=-98304@0 1=2@5 2=163840@7 1=-7@11 1=16@14 |");
    }
}
