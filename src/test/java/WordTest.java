/** Promises 6, 7 and 8: a word's kind, number and place; what is no number is a name. */
public final class WordTest {
    public static void main(String[] args) {
        Due due = new Due();
        kinds(due);
        noSuchWord(due);
        braces(due);
        wholeNumbers(due);
        numbersWithBase(due);
        due.end();
    }

    private static void kinds(Due due) {
        due.program("7 .5 a /b (c)<64>{}", "8 @19: 1=7@0 2=32768@2 3=0@5 4=1@7 5=2@10 5=3@13 6=7@17 7=6@18 | 'a' 'b' 'c' 'd'");
        due.program("[]<<>>", "4 @6: 3=0@0 3=1@1 3=2@2 3=3@4 | '[' ']' '<<' '>>'");
        due.program("1[2]3", "5 @5: 1=1@0 3=0@1 1=2@2 3=1@3 1=3@4 | '[' ']'");
        due.program("<<<41>>>", "3 @8: 3=0@0 5=1@2 3=2@6 | '<<' 'A' '>>'");
        due.program("/1 1 /1.5/+", "4 @11: 4=0@0 1=1@3 4=1@5 4=2@9 | '1' '1.5' '+'");
        due.program("/ a//b/", "5 @7: 4=0@0 3=1@2 4=0@3 4=2@4 4=0@6 | '' 'a' 'b'");
        due.program("/(a)/<61>/[/{/%}\n}", "10 @18: 4=0@0 5=1@1 4=0@4 5=1@5 4=0@9 3=2@10 4=0@11 6=9@12 4=0@13 7=7@17 | '' 'a' '['");
        due.program("a\\b\\ $x\"'~!&*,;:?@^_`|=#", "2 @24: 3=0@0 3=1@5 | 'a\\b\\' '$x\"'~7e!&*,;:?@^_`|=#'");
    }

    private static void noSuchWord(Due due) {
        Counted x = new Counted();
        Due.type(x, "a 5");
        due.is("cut()", x.cut(), 2);
        for (int w : new int[] {-1, -2, 2, 3, 63, 64, 65, 16384, Integer.MIN_VALUE, Integer.MAX_VALUE}) {
            due.is("kind(" + w + ")", x.kind(w), -1);
            due.is("number(" + w + ")", x.number(w), -1);
            due.is("begin(" + w + ")", x.begin(w), -1);
        }
        due.is("kind(1)", x.kind(1), 1);
        due.is("number(1)", x.number(1), 5);
        due.is("begin(1)", x.begin(1), 2);
    }

    private static void braces(Due due) {
        due.program("{{}{{}}}", "8 @8: 6=7@0 6=2@1 7=1@2 6=6@3 6=5@4 7=4@5 7=3@6 7=0@7 |");
        due.program("{a}{{b}", "-4 @7: 6=2@0 3=0@1 7=0@2 6=-1@3 6=6@4 3=1@5 7=4@6 | 'a' 'b'");
        due.program("{ {} )", "-1 @5: 6=-1@0 6=2@2 7=1@3 |");
    }

    private static void wholeNumbers(Due due) {
        due.whole("0", 0);
        due.whole("-0", 0);
        due.whole("+0", 0);
        due.whole("0123456789", 123456789);
        due.whole("+2147483647", Integer.MAX_VALUE);
        due.whole("-2147483648", Integer.MIN_VALUE);
        due.whole("-0000000000000000000000000000000000000002147483648", Integer.MIN_VALUE);
        due.tooGreat("2147483648");
        due.tooGreat("+2147483648");
        due.tooGreat("-2147483649");
        due.tooGreat("4294967295");
        due.tooGreat("4294967296");
        due.tooGreat("-4294967296");
        due.tooGreat("18446744073709551616");
        due.tooGreat("18446744073709551623");
        due.tooGreat("340282366920938463463374607431768211456");
        for (String name : new String[] {"+", "-", "--1", "+-1", "-+1", "1-", "1+1", "12a", "a12", "1,2", "1:", ":1", "99999999999x", "\2611"}) {
            due.name(name);
        }
    }

    private static void numbersWithBase(Due due) {
        due.whole("2#0", 0);
        due.whole("2#1010", 10);
        due.whole("02#11", 3);
        due.whole("8#777", 511);
        due.whole("10#19", 19);
        due.whole("11#1a", 21);
        due.whole("11#1A", 21);
        due.whole("16#1e5", 0x1e5);
        due.whole("16#deadBEEF", 0xdeadbeef);
        due.whole("16#80000000", Integer.MIN_VALUE);
        due.whole("36#1z141z3", -1);
        due.whole("36#zZ", 1295);
        due.whole("10#4294967295", -1);
        due.whole("2#11111111111111111111111111111111", -1);
        due.whole("16#00000000000000000000FFFFFFFF", -1);
        due.tooGreat("10#4294967296");
        due.tooGreat("36#1z141z4");
        due.tooGreat("2#100000000000000000000000000000000");
        due.tooGreat("36#" + Due.times(124, "z"));
        due.tooGreat("16#10000000000000000");
        for (String name : new String[] {"#", "#1", "2#", "0#0", "1#0", "00#0", "01#0", "37#1", "99#1", "002#1", "100#1", "2#2",
            "2#102", "10#a", "11#b", "35#z", "35#Z", "16#g", "16#1#1", "16#-1", "16#+1", "+16#1", "-16#1", "16#1.5", "16#ffffffffffg",
            "a#1", "1.#1", "16#\301", "36#@", "36#`"}) {
            due.name(name);
        }
        due.program("36#{}", "3 @5: 3=0@0 6=2@3 7=1@4 | '36#'");
    }
}
