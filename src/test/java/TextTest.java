/** Promises 9, 10 and 11: the texts, each different row of bytes once, their sizes and bytes. */
public final class TextTest {
    public static void main(String[] args) {
        Due due = new Due();
        brackets(due);
        escapes(due);
        lineEnds(due);
        pairsOfDigits(due);
        eachOnce(due);
        manyTexts(due);
        noSuchText(due);
        due.end();
    }

    private static void brackets(Due due) {
        due.program("()", "1 @2: 5=0@0 | ''");
        due.program("a(b)c", "3 @5: 3=0@0 5=1@1 3=2@4 | 'a' 'b' 'c'");
        due.program("((a)(b(c)))(d)", "2 @14: 5=0@0 5=1@11 | '(a)(b(c))' 'd'");
        due.program("([{<>}]/%\0\t\f x)", "1 @15: 5=0@0 | '[{<>}]/%~00~09~0c x'");
        due.program("(\200\377)", "1 @4: 5=0@0 | '~80~ff'");
        String deep = Due.times(200, "(") + Due.times(200, ")");
        due.program("(" + deep + ")", "1 @402: 5=0@0 | '" + deep + "'");
        due.program("(" + deep, "-2 @401: |");
    }

    private static void escapes(Due due) {
        text(due, "\\n\\r\\t\\b\\f", "\n\r\t\b\f");
        text(due, "\\N\\R\\T\\B\\F\\a\\x\\v\\e\\8\\9\\\"", "NRTBFaxve89\"");
        text(due, "\\(", "(");
        text(due, "\\)", ")");
        text(due, "\\)\\)(\\()", "))(()");
        text(due, "\\\\", "\\");
        text(due, "\\\\\\)", "\\)");
        text(due, "\\0", "\0");
        text(due, "\\7x", "\7x");
        text(due, "\\12x", "\nx");
        text(due, "\\101x", "Ax");
        text(due, "\\1012", "A2");
        text(due, "\\18", "\0018");
        text(due, "\\128", "\n8");
        text(due, "\\377", "\377");
        text(due, "\\400", "\0");
        text(due, "\\777", "\377");
        text(due, "\\501", "A");
        text(due, "\\50\\051", "()");
        text(due, "\\15\\12", "\r\n");
        text(due, "\\1\\2\\3", "\1\2\3");
        text(due, "\\ \\\0\\\t", " \0\t");
        text(due, "\\\377", "\377");
    }

    private static void lineEnds(Due due) {
        text(due, "a\nb", "a\nb");
        text(due, "a\rb", "a\nb");
        text(due, "a\r\nb", "a\nb");
        text(due, "a\n\rb", "a\n\nb");
        text(due, "a\r\r\n\nb", "a\n\n\nb");
        text(due, "\r", "\n");
        text(due, "\r\n", "\n");
        text(due, "a\\\nb", "ab");
        text(due, "a\\\rb", "ab");
        text(due, "a\\\r\nb", "ab");
        text(due, "a\\\n\nb", "a\nb");
        text(due, "a\\\n\rb", "a\nb");
        text(due, "a\\\r\rb", "a\nb");
        text(due, "a\\\r\n\nb", "a\nb");
        text(due, "a\\\r\\\nb", "ab");
        text(due, "a\r\\\nb", "a\nb");
        text(due, "\\\r", "");
        text(due, "\\r\\\n", "\r");
        text(due, "\\r\n", "\r\n");
    }

    private static void pairsOfDigits(Due due) {
        digits(due, "", "");
        digits(due, " \0\t\n\f\r", "");
        digits(due, "0", "\0");
        digits(due, "4", "@");
        digits(due, "F", "\360");
        digits(due, "00", "\0");
        digits(due, "0a0A", "\n\n");
        digits(due, "09afAF", "\11\257\257");
        digits(due, "fF Ff", "\377\377");
        digits(due, "4 1\r\n4\0\t2", "AB");
        digits(due, "41 4", "A@");
        digits(due, "41 4 ", "A@");
        digits(due, "48656c6C6F", "Hello");
    }

    private static void eachOnce(Due due) {
        due.program("a /a (a) <61> (\\141) a", "6 @22: 3=0@0 4=0@2 5=0@5 5=0@9 5=0@14 3=0@21 | 'a'");
        due.program("[ ([) /[ <5b>", "5 @13: 3=0@0 5=0@2 4=1@6 3=0@7 5=0@9 | '[' ''");
        due.program("<< (<<) >> (>>)", "4 @15: 3=0@0 5=0@3 3=1@8 5=1@11 | '<<' '>>'");
        due.program("() / <> (\\\n)", "4 @12: 5=0@0 4=0@3 5=0@5 5=0@8 | ''");
        due.program("b a ab ba b (ab) 1 (1) /1", "9 @25: 3=0@0 3=1@2 3=2@4 3=3@7 3=0@10 5=2@12 1=1@17 5=4@19 4=4@23 | 'b' 'a' 'ab' 'ba' '1'");
        due.program("a A aa (a\\0) (\\0) (\\0\\0) ()", "7 @27: 3=0@0 3=1@2 3=2@4 5=3@7 5=4@13 5=5@18 5=6@25 | 'a' 'A' 'aa' 'a~00' '~00' '~00~00' ''");
        due.program("(a) (a ) ( a)", "3 @13: 5=0@0 5=1@4 5=2@9 | 'a' 'a ' ' a'");
        due.program("Aa BB C# AaBB BBAa AaAa BBBB", "7 @28: 3=0@0 3=1@3 3=2@6 3=3@9 3=4@14 3=5@19 3=6@24 | 'Aa' 'BB' 'C#' 'AaBB' 'BBAa' 'AaAa' 'BBBB'");
        due.program("Aa BB C# Aa BB C#", "6 @17: 3=0@0 3=1@3 3=2@6 3=0@9 3=1@12 3=2@15 | 'Aa' 'BB' 'C#'");
        due.program("(\\37) (\\0\\0) <1f> <0000>", "4 @24: 5=0@0 5=1@6 5=0@13 5=1@18 | '~1f' '~00~00'");
        due.program("{a{a}b}", "7 @7: 6=6@0 3=0@1 6=4@2 3=0@3 7=2@4 3=1@5 7=0@6 | 'a' 'b'");
    }

    private static void manyTexts(Due due) {
        Counted x = new Counted();
        int texts = 300;
        StringBuilder program = new StringBuilder();
        for (int k = 0; k < 2 * texts; k++) {
            program.append(manyName(k % texts)).append(' ');
        }
        Due.type(x, program.toString());
        due.is("cut() of many names, each twice", x.cut(), 2 * texts);
        due.is("texts()", x.texts(), texts);
        for (int t = 0; t < texts; t += 40) {
            due.is("number(" + t + ")", x.number(t), t);
            due.is("number(" + (texts + t) + ")", x.number(texts + t), t);
            due.is("size(" + t + ")", x.size(t), 4);
            for (int k = 0; k < 4; k++) {
                due.is("at(" + t + ", " + k + ")", x.at(t, k), manyName(t).charAt(k));
            }
        }
    }

    private static String manyName(int t) {
        return "n" + (char) ('A' + t % 7) + (char) ('a' + t / 7 % 8) + (char) ('0' + t / 56);
    }

    private static void noSuchText(Due due) {
        Counted x = new Counted();
        Due.type(x, "/ abc (d) 5 x {");
        due.is("cut()", x.cut(), -4);
        due.is("texts()", x.texts(), 4);
        for (int t : new int[] {-1, -2, 4, 5, 64, 65536, Integer.MIN_VALUE, Integer.MAX_VALUE}) {
            due.is("size(" + t + ")", x.size(t), -1);
            due.is("at(" + t + ", 0)", x.at(t, 0), -1);
            due.is("at(" + t + ", -1)", x.at(t, -1), -1);
            due.is("at(0, " + t + ")", x.at(0, t), -1);
            due.is("at(1, " + t + ")", x.at(1, t), -1);
            due.is("at(2, " + t + ")", x.at(2, t), -1);
        }
        due.is("size(0)", x.size(0), 0);
        due.is("at(0, 0)", x.at(0, 0), -1);
        due.is("size(1)", x.size(1), 3);
        due.is("at(1, 2)", x.at(1, 2), 'c');
        due.is("at(1, 3)", x.at(1, 3), -1);
        due.is("size(3)", x.size(3), 1);
        due.is("at(3, 1)", x.at(3, 1), -1);
        Due.type(x, "z (unended");
        due.is("cut()", x.cut(), -2);
        due.is("texts()", x.texts(), 1);
        due.is("at(0, 1)", x.at(0, 1), -1);
        due.is("size(1)", x.size(1), -1);
        due.is("at(1, 0)", x.at(1, 0), -1);
    }

    private static void text(Due due, String inside, String bytes) {
        due.text("(" + inside + ")", bytes);
    }

    private static void digits(Due due, String inside, String bytes) {
        due.text("<" + inside + ">", bytes);
    }
}
