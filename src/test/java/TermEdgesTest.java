/** The section 'Terms' but for its numbers: each sentence that names a boundary, on both sides of it. */
public final class TermEdgesTest {
    private static final String BLANKS = "\0\t\n\f\r ";

    public static void main(String[] args) {
        Due due = new Due();
        tapeOfMostBytes(due);
        placesFromZero(due);
        blanksMarksAndPlain(due);
        commentsEnd(due);
        cuttingGoesOnBehindAWord(due);
        longestRow(due);
        longestRowBehindSlash(due);
        emptyRowBehindSlash(due);
        namesOfMarks(due);
        mostOpenBraces(due);
        bracketsInPairs(due);
        bytesBehindBackslash(due);
        octalDigits(due);
        backslashBeforeLineEnd(due);
        lineEnds(due);
        digitsOfATextByPairs(due);
        lastDigitAlone(due);
        eachDifferentRowOnce(due);
        due.end();
    }

    private static void tapeOfMostBytes(Due due) {
        due.sentence("THE TAPE has at most 65536 bytes, at first none");
        Counted x = Counted.beyondPromise();
        due.is("cut() of a new object's tape", Due.seen(x, x.cut()), "0 @0: |");
        due.is("65536 bytes", Due.type(x, Due.times(65535, " ") + "a"), 65536);
        due.is("cut() of these", Due.seen(x, x.cut()), "1 @65536: 3=0@65535 | 'a'");
        due.is("65537 bytes", Due.type(x, Due.times(65536, " ") + "a"), -3);
        due.is("cut() of those that were taken", Due.seen(x, x.cut()), "0 @65536: |");
    }

    private static void placesFromZero(Due due) {
        due.sentence("PLACES in it are numbered from 0");
        due.program("a", "1 @1: 3=0@0 | 'a'");
        due.program(" a", "1 @2: 3=0@1 | 'a'");
        due.program(")", "-1 @0: |");
        due.program(" )", "-1 @1: |");
    }

    private static void blanksMarksAndPlain(Due due) {
        due.sentence("BLANKS are the bytes 0, 9, 10, 12, 13, 32; MARKS are ( ) < > [ ] { } / %; all others are PLAIN");
        for (char b = 0; b < 256; b++) {
            due.program("a" + b + "c", betweenRows(b));
        }
        due.program(BLANKS, "0 @6: |");
    }

    private static String betweenRows(char b) {
        if (BLANKS.indexOf(b) >= 0) {
            return "2 @3: 3=0@0 3=1@2 | 'a' 'c'";
        }
        switch (b) {
            case '(':
            case '<':
                return "-2 @3: 3=0@0 | 'a'";
            case ')':
            case '>':
                return "-1 @1: 3=0@0 | 'a'";
            case '[':
            case ']':
                return "3 @3: 3=0@0 3=1@1 3=2@2 | 'a' '" + b + "' 'c'";
            case '{':
                return "-4 @3: 3=0@0 6=-1@1 3=1@2 | 'a' 'c'";
            case '}':
                return "-4 @1: 3=0@0 | 'a'";
            case '/':
                return "2 @3: 3=0@0 4=1@1 | 'a' 'c'";
            case '%':
                return "1 @3: 3=0@0 | 'a'";
            default:
                return "1 @3: 3=0@0 | " + Due.shown("a" + b + "c");
        }
    }

    private static void commentsEnd(Due due) {
        due.sentence("a COMMENT: % and all to before the next byte 10 or 13 (or the tape's end)");
        for (char b = 0; b < 256; b++) {
            boolean ends = b == 10 || b == 13;
            due.program("a%" + b + "c", ends ? "2 @4: 3=0@0 3=1@3 | 'a' 'c'" : "1 @4: 3=0@0 | 'a'");
        }
        due.program("%", "0 @1: |");
        due.program("%\n", "0 @2: |");
        due.program("%\r\n%\n%", "0 @6: |");
        due.program("%\na", "1 @3: 3=0@2 | 'a'");
        due.program("%a\n%b\rc", "1 @7: 3=0@6 | 'c'");
        due.program("%" + Due.times(1000, "c"), "0 @1001: |");
        due.program("%" + Due.times(1000, "c") + "\na", "1 @1003: 3=0@1002 | 'a'");
        due.program("% (\n)", "-1 @4: |");
        due.program("% {\n}", "-4 @4: |");
    }

    private static void cuttingGoesOnBehindAWord(Due due) {
        due.sentence("cutting goes on behind it, to the tape's end");
        due.program("(a)b<62>c{d}/e[f]g<<h>>", "15 @23: 5=0@0 3=1@3 5=1@4 3=2@8 6=6@9 3=3@10 7=4@11 4=4@12 3=5@14 3=6@15 3=7@16 3=8@17 3=9@18 "
                + "3=10@20 3=11@21 | 'a' 'b' 'c' 'd' 'e' '[' 'f' ']' 'g' '<<' 'h' '>>'");
        due.program("1(a)2<62>3{4}/5[6]", "12 @18: 1=1@0 5=0@1 1=2@4 5=1@5 1=3@9 6=7@10 1=4@11 7=5@12 4=2@13 3=3@15 1=6@16 3=4@17 | "
                + "'a' 'b' '5' '[' ']'");
    }

    private static void longestRow(Due due) {
        due.sentence("A ROW is plain bytes, as many as follow, at most 127; 6 a row of 128 plain bytes, at the word's beginning");
        for (String plain : new String[] {"r", "\377", "0"}) {
            String most = Due.times(127, plain);
            String word = plain.equals("0") ? "1=0@2 |" : "3=0@2 | " + Due.shown(most);
            due.program("\t " + most, "1 @129: " + word);
            due.program("\t " + most + "\t", "1 @130: " + word);
            due.program("\t " + most + plain, "-6 @2: |");
            due.program("\t " + most + plain + " b", "-6 @2: |");
            due.program("a " + most + plain + plain, "-6 @2: 3=0@0 | 'a'");
        }
        for (int k = 0; k < BLANKS.length(); k++) {
            due.program(Due.times(127, "r") + BLANKS.charAt(k) + "r", "2 @129: 3=0@0 3=1@128 | '" + Due.times(127, "r") + "' 'r'");
        }
        due.program(Due.times(127, "r") + "(r)", "2 @130: 3=0@0 5=1@127 | '" + Due.times(127, "r") + "' 'r'");
        due.program(Due.times(127, "r") + "%r", "1 @129: 3=0@0 | '" + Due.times(127, "r") + "'");
        due.program(Due.times(127, "r") + ")", "-1 @127: 3=0@0 | '" + Due.times(127, "r") + "'");
        due.program("(" + Due.times(128, "r") + ")", "1 @130: 5=0@0 | '" + Due.times(128, "r") + "'");
        due.program("%" + Due.times(128, "r"), "0 @129: |");
    }

    private static void longestRowBehindSlash(Due due) {
        due.sentence("/ and a row: the row of at most 127, and 6 at the word's beginning");
        String most = Due.times(127, "r");
        due.program(" /" + most, "1 @129: 4=0@1 | '" + most + "'");
        due.program(" /" + most + " r", "2 @131: 4=0@1 3=1@130 | '" + most + "' 'r'");
        due.program(" /" + most + "/r", "2 @131: 4=0@1 4=1@129 | '" + most + "' 'r'");
        due.program(" /" + most + "r", "-6 @1: |");
        due.program("a/" + most + "r ", "-6 @1: 3=0@0 | 'a'");
        due.program("/" + Due.times(128, "7"), "-6 @0: |");
    }

    private static void emptyRowBehindSlash(Due due) {
        due.sentence("/ and a row, also an empty one: a name that stands for itself");
        due.program("/", "1 @1: 4=0@0 | ''");
        due.program("/a", "1 @2: 4=0@0 | 'a'");
        due.program("//", "2 @2: 4=0@0 4=0@1 | ''");
        due.program("//a", "2 @3: 4=0@0 4=1@1 | '' 'a'");
        due.program("/[", "2 @2: 4=0@0 3=1@1 | '' '['");
        due.program("/]", "2 @2: 4=0@0 3=1@1 | '' ']'");
        due.program("/{}", "3 @3: 4=0@0 6=2@1 7=1@2 | ''");
        due.program("{/}", "3 @3: 6=2@0 4=0@1 7=0@2 | ''");
        due.program("/()", "2 @3: 4=0@0 5=0@1 | ''");
        due.program("/<>", "2 @3: 4=0@0 5=0@1 | ''");
        due.program("/<<", "2 @3: 4=0@0 3=1@1 | '' '<<'");
        due.program("/>>", "2 @3: 4=0@0 3=1@1 | '' '>>'");
        due.program("/)", "-1 @1: 4=0@0 | ''");
        due.program("/>", "-1 @1: 4=0@0 | ''");
        due.program("/%a", "1 @3: 4=0@0 | ''");
        for (int k = 0; k < BLANKS.length(); k++) {
            due.program("/" + BLANKS.charAt(k), "1 @2: 4=0@0 | ''");
            due.program("/" + BLANKS.charAt(k) + "a", "2 @3: 4=0@0 3=1@2 | '' 'a'");
        }
        due.program("/1", "1 @2: 4=0@0 | '1'");
        due.program("/99999999999", "1 @12: 4=0@0 | '99999999999'");
        due.program("/1e9", "1 @4: 4=0@0 | '1e9'");
        due.program("/16#1", "1 @5: 4=0@0 | '16#1'");
    }

    private static void namesOfMarks(Due due) {
        due.sentence("[ and ] and << and >>: names to be done, of those bytes");
        due.program("[", "1 @1: 3=0@0 | '['");
        due.program("]", "1 @1: 3=0@0 | ']'");
        due.program("<<", "1 @2: 3=0@0 | '<<'");
        due.program(">>", "1 @2: 3=0@0 | '>>'");
        due.program("[[]", "3 @3: 3=0@0 3=0@1 3=1@2 | '[' ']'");
        due.program("<<<<", "2 @4: 3=0@0 3=0@2 | '<<'");
        due.program(">>>>", "2 @4: 3=0@0 3=0@2 | '>>'");
        due.program("<<>", "-1 @2: 3=0@0 | '<<'");
        due.program("<<<", "-2 @3: 3=0@0 | '<<'");
        due.program("<<<>", "2 @4: 3=0@0 5=1@2 | '<<' ''");
        due.program(">>>", "-1 @2: 3=0@0 | '>>'");
        due.program("> >", "-1 @0: |");
        due.program("< <", "-3 @2: |");
        due.program("<>", "1 @2: 5=0@0 | ''");
        due.program("<>>>", "2 @4: 5=0@0 3=1@2 | '' '>>'");
        due.program("<>>", "-1 @2: 5=0@0 | ''");
    }

    private static void mostOpenBraces(Due due) {
        due.sentence("{ and }: braces; at most 64 may be open at once");
        Counted x = new Counted();
        Due.type(x, Due.times(64, "{") + Due.times(64, "}"));
        due.is("cut() with 64 open at once", x.cut(), 128);
        due.is("place()", x.place(), 128);
        for (int w = 0; w < 128; w++) {
            due.is("number(" + w + ")", x.number(w), 127 - w);
        }
        Due.type(x, Due.times(65, "{") + Due.times(65, "}"));
        due.is("cut() with 65", x.cut(), -7);
        due.is("place()", x.place(), 64);
        due.is("words()", x.words(), 64);
        Due.type(x, Due.times(65, "{}"));
        due.is("cut() with 65 that are not open at once", x.cut(), 130);
        Due.type(x, Due.times(64, "{") + "}{" + Due.times(64, "}"));
        due.is("cut() with a 64th again", x.cut(), 130);
        Due.type(x, Due.times(64, "{") + "}{{" + Due.times(65, "}"));
        due.is("cut() with a 65th behind a }", x.cut(), -7);
        due.is("place()", x.place(), 66);
        Due.type(x, Due.times(64, "{") + "({)" + Due.times(64, "}"));
        due.is("cut() with a 65th in a text", x.cut(), 129);
    }

    private static void bracketsInPairs(Due due) {
        due.sentence("( begins a TEXT, to the ) that is its own: ( and ) in it come in pairs, and belong to it");
        due.text("()", "");
        due.text("(a)", "a");
        due.text("(())", "()");
        due.text("((a)b)", "(a)b");
        due.text("((((()))))", "(((())))");
        due.text("(" + Due.times(150, "()") + ")", Due.times(150, "()"));
        due.text("(" + Due.times(150, "(") + Due.times(150, ")") + ")", Due.times(150, "(") + Due.times(150, ")"));
        due.program("()()", "2 @4: 5=0@0 5=0@2 | ''");
        due.program("(())()", "2 @6: 5=0@0 5=1@4 | '()' ''");
        due.program("(()", "-2 @3: |");
        due.program("())", "-1 @2: 5=0@0 | ''");
        due.text("({[<%/>]}\0)", "{[<%/>]}\0");
        due.text("(%)", "%");
    }

    private static void bytesBehindBackslash(Due due) {
        due.sentence("A backslash in it: behind it n r t b f are the bytes 10, 13, 9, 8, 12; .. any other byte: that one");
        for (char b = 0; b < 256; b++) {
            String program = "(" + "\\" + b + "x)";
            int known = "nrtbf".indexOf(b);
            if (known >= 0) {
                due.text(program, "\n\r\t\b\f".charAt(known) + "x");
            } else if (b >= '0' && b <= '7') {
                due.text(program, (char) (b - '0') + "x");
            } else if (b == 10 || b == 13) {
                due.text(program, "x");
            } else {
                due.text(program, b + "x");
            }
        }
        due.sentence("so brackets that count as no pairs");
        due.text("(\\()", "(");
        due.text("(\\))", ")");
        due.text("(\\)\\()", ")(");
        due.text("((\\)))", "())");
        due.program("(\\)", "-2 @3: |");
        due.program("((\\))", "-2 @5: |");
        due.program("(\\()(\\))", "2 @8: 5=0@0 5=1@4 | '(' ')'");
        due.program("(\\())", "-1 @4: 5=0@0 | '('");
        due.text("(\\\\)", "\\");
        due.program("(\\\\\\)", "-2 @5: |");
        due.program("\\(a)", "2 @4: 3=0@0 5=1@1 | '\\' 'a'");
        due.program("(\\", "-2 @2: |");
    }

    private static void octalDigits(Due due) {
        due.sentence("one to three digits 0 .. 7 (as many as there are) that byte, modulo 256");
        for (int v = 0; v < 512; v++) {
            String three = "" + (char) ('0' + v / 64) + (char) ('0' + v / 8 % 8) + (char) ('0' + v % 8);
            due.text("(\\" + three + ")", "" + (char) (v % 256));
            due.text("(\\" + three + "7)", (char) (v % 256) + "7");
        }
        for (int v = 0; v < 64; v++) {
            String two = "" + (char) ('0' + v / 8) + (char) ('0' + v % 8);
            due.text("(\\" + two + ")", "" + (char) v);
            due.text("(\\" + two + "8)", (char) v + "8");
        }
        for (int v = 0; v < 8; v++) {
            due.text("(\\" + v + ")", "" + (char) v);
            due.text("(\\" + v + "9)", (char) v + "9");
            due.text("(\\" + v + "/)", (char) v + "/");
            due.text("(\\" + v + "\\" + v + ")", "" + (char) v + (char) v);
        }
        due.text("(\\8)", "8");
        due.text("(\\9)", "9");
        due.text("(\\81)", "81");
        due.text("(\\0000)", "\0000");
        due.text("(\\0501)", "(1");
        due.text("(\\1\n2)", "\1\n2");
        due.text("(\\1\\\n2)", "\0012");
        for (String digits : new String[] {"1", "12", "123"}) {
            due.program("(\\" + digits, "-2 @" + (digits.length() + 2) + ": |");
        }
    }

    private static void backslashBeforeLineEnd(Due due) {
        due.sentence("a byte 10, or 13, or 13 and 10: nothing");
        due.text("(a\\\nb)", "ab");
        due.text("(a\\\rb)", "ab");
        due.text("(a\\\r\nb)", "ab");
        due.text("(a\\\n\nb)", "a\nb");
        due.text("(a\\\n\rb)", "a\nb");
        due.text("(a\\\r\rb)", "a\nb");
        due.text("(a\\\r\n\nb)", "a\nb");
        due.text("(a\\\r\n\r\nb)", "a\nb");
        due.text("(\\\r)", "");
        due.text("(\\\n)", "");
        due.text("(\\\r\n)", "");
        due.text("(\\\f)", "\f");
        due.program("(\\\r", "-2 @3: |");
        due.program("(\\\r\n", "-2 @4: |");
    }

    private static void lineEnds(Due due) {
        due.sentence("Bytes 13, and 13 and 10, without a backslash count as 10");
        due.text("(\n)", "\n");
        due.text("(\r)", "\n");
        due.text("(\r\n)", "\n");
        due.text("(\n\r)", "\n\n");
        due.text("(\r\r)", "\n\n");
        due.text("(\n\n)", "\n\n");
        due.text("(\r\n\n)", "\n\n");
        due.text("(\r\n\r\n)", "\n\n");
        due.text("(\r\r\n)", "\n\n");
        due.text("(\ra)", "\na");
        due.text("(\f\0\t\013)", "\f\0\t\013");
        due.text("(\\15\n)", "\r\n");
        due.text("(\\r\n)", "\r\n");
        due.text("(\r\\n)", "\n\n");
        due.text("(\r\\12)", "\n\n");
        due.text("(\\r\\n)", "\r\n");
        due.text("<0d0a>", "\r\n");
        due.program("(\r", "-2 @2: |");
        due.program("(\r\n", "-2 @3: |");
    }

    private static void digitsOfATextByPairs(Due due) {
        due.sentence("< begins a TEXT of bytes by two digits with 16 each (0 .. 9, a .. f, A .. F), to the next >; blanks are left out");
        for (char b = 0; b < 256; b++) {
            int digit = "0123456789abcdef".indexOf(b >= 'A' && b <= 'F' ? b + 32 : b);
            if (digit >= 0) {
                due.text("<4" + b + ">", "" + (char) (64 + digit));
                due.text("<" + b + "4>", "" + (char) (16 * digit + 4));
            } else if (BLANKS.indexOf(b) >= 0) {
                due.text("<4" + b + ">", "@");
                due.text("<" + b + "4" + b + "1" + b + ">", "A");
            } else if (b == '>') {
                due.program("<4>4>", "-1 @4: 5=0@0 1=4@3 | '@'");
            } else {
                due.program("<4" + b + ">", "-3 @2: |");
                due.program(" <41 4" + b + ">", "-3 @6: |");
            }
        }
        due.text("<>", "");
        due.text("<" + BLANKS + ">", "");
        due.text("<" + Due.times(200, "61") + ">", Due.times(200, "a"));
    }

    private static void lastDigitAlone(Due due) {
        due.sentence("if the last digit is alone, a 0 is behind it");
        for (int d = 0; d < 16; d++) {
            String digit = Integer.toHexString(d);
            String alone = "" + (char) (16 * d);
            due.text("<" + digit + ">", alone);
            due.text("<" + digit.toUpperCase() + " >", alone);
            due.text("<61 " + digit + ">", "a" + alone);
            due.text("<616" + digit + ">", "a" + (char) (96 + d));
            due.text("<6 16" + digit + "6>", "a" + (char) (96 + d) + "`");
        }
        due.text("<61>", "a");
        due.text("<6>", "`");
        due.text("<>", "");
        due.program("<6><1>", "2 @6: 5=0@0 5=1@3 | '`' '~10'");
        due.program("<6", "-2 @2: |");
        due.program("<61", "-2 @3: |");
    }

    private static void eachDifferentRowOnce(Due due) {
        due.sentence("each different row of bytes has a number, 0, 1, .. as they come first");
        due.program("a a", "2 @3: 3=0@0 3=0@2 | 'a'");
        due.program("a b", "2 @3: 3=0@0 3=1@2 | 'a' 'b'");
        due.program("b a b a", "4 @7: 3=0@0 3=1@2 3=0@4 3=1@6 | 'b' 'a'");
        due.program("a (a)/a <61>", "4 @12: 3=0@0 5=0@2 4=0@5 5=0@8 | 'a'");
        due.program("a A", "2 @3: 3=0@0 3=1@2 | 'a' 'A'");
        due.program("a aa aaa aa a", "5 @13: 3=0@0 3=1@2 3=2@5 3=1@9 3=0@12 | 'a' 'aa' 'aaa'");
        due.program("() / <>", "3 @7: 5=0@0 4=0@3 5=0@5 | ''");
        due.program("(\\0) <> <0000> <0> ()", "5 @21: 5=0@0 5=1@5 5=2@8 5=0@15 5=1@19 | '~00' '' '~00~00'");
        due.program("1 (1) 1. (1.)", "4 @13: 1=1@0 5=0@2 2=65536@6 5=1@9 | '1' '1.'");
        due.program("(\200) (\0) (\200)", "3 @11: 5=0@0 5=1@4 5=0@8 | '~80' '~00'");
        due.program("([) [ (<<) << (]) ] (>>) >>", "8 @27: 5=0@0 3=0@4 5=1@6 3=1@11 5=2@14 3=2@18 5=3@20 3=3@25 | '[' '<<' ']' '>>'");
        due.program("(a)(b", "-2 @5: 5=0@0 | 'a'");
    }
}
