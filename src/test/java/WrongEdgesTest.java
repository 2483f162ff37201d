/** 'IT IS WRONG, why and where': each of the eight reasons beside what is just right, and which of two comes first. */
public final class WrongEdgesTest {
    private static final int MOST_WORDS = 16384;

    public static void main(String[] args) {
        Due due = new Due();
        nothingIsOpen(due);
        textWithoutEnd(due);
        neitherDigitNorBlank(due);
        closingBraceAlone(due);
        openBraceAtTheEnd(due);
        textWithoutEndBeforeOpenBrace(due);
        numberTooGreat(due);
        rowTooLong(due);
        bracesTooDeep(due);
        wordsTooMany(due);
        wordsTooManyWhateverElse(due);
        wordsBeforeThatAreThere(due);
        theFirstIsTold(due);
        due.end();
    }

    private static void nothingIsOpen(Due due) {
        due.sentence("1 ) or > with which nothing is open, there (>> is a name)");
        due.program(")", "-1 @0: |");
        due.program("()", "1 @2: 5=0@0 | ''");
        due.program("())", "-1 @2: 5=0@0 | ''");
        due.program("a)", "-1 @1: 3=0@0 | 'a'");
        due.program("1)", "-1 @1: 1=1@0 |");
        due.program("{)}", "-1 @1: 6=-1@0 |");
        due.program(">", "-1 @0: |");
        due.program("a>", "-1 @1: 3=0@0 | 'a'");
        due.program("a> >", "-1 @1: 3=0@0 | 'a'");
        due.program(">a>", "-1 @0: |");
        due.program("<>", "1 @2: 5=0@0 | ''");
        due.program("<>>", "-1 @2: 5=0@0 | ''");
        due.program(">>", "1 @2: 3=0@0 | '>>'");
        due.program(">>>", "-1 @2: 3=0@0 | '>>'");
        due.program("(>)", "1 @3: 5=0@0 | '>'");
        due.program("%)>", "0 @3: |");
        due.program("%)>\n>", "-1 @4: |");
    }

    private static void textWithoutEnd(Due due) {
        due.sentence("2 a text that does not end, at the tape's end");
        for (String begin : new String[] {"(", "(a", "(a(", "(a()", "((a)", "(\\", "(\\)", "(\\1", "(\\12", "(\\123", "(a\n", "(a\r", "(a\\\r", "(%", "( ", "(>", "(}"}) {
            due.program(begin, "-2 @" + begin.length() + ": |");
            due.program("a" + begin, "-2 @" + (begin.length() + 1) + ": 3=0@0 | 'a'");
        }
        String[] begins = {"<", "<4", "<41", "<414", "< ", "<4 ", "< 4\n1\0"};
        String[] ended = {"", "@", "A", "A@", "", "@", "A"};
        for (int k = 0; k < begins.length; k++) {
            due.program(begins[k], "-2 @" + begins[k].length() + ": |");
            due.text(begins[k] + ">", ended[k]);
        }
        due.text("(a)", "a");
        due.text("(\\))", ")");
        due.text("(\\1)", "\1");
        due.text("(>)", ">");
        due.program("<(", "-3 @1: |");
    }

    private static void neitherDigitNorBlank(Due due) {
        due.sentence("3 in a text of digits a byte that is neither digit nor blank, there");
        due.program("<g>", "-3 @1: |");
        due.text("<f>", "\360");
        due.program("<41G>", "-3 @3: |");
        due.text("<41F>", "A\360");
        for (String wrong : new String[] {"/", ":", "@", "G", "`", "g", "\1", "\b", "\013", "\016", "\037", "!", "(", ")", "<", "[", "%", "\\", "#", ".", "-", "\200", "\377"}) {
            due.program("< " + wrong + ">", "-3 @2: |");
            due.program("<4" + wrong + "1>", "-3 @2: |");
            due.program("a <4 1 " + wrong, "-3 @7: 3=0@0 | 'a'");
        }
        due.program("<4g4h", "-3 @2: |");
    }

    private static void closingBraceAlone(Due due) {
        due.sentence("4 a } with which no { is open, there");
        due.program("}", "-4 @0: |");
        due.program("{}", "2 @2: 6=1@0 7=0@1 |");
        due.program("{}}", "-4 @2: 6=1@0 7=0@1 |");
        due.program("a }{", "-4 @2: 3=0@0 | 'a'");
        due.program("{{}}}", "-4 @4: 6=3@0 6=2@1 7=1@2 7=0@3 |");
        due.program("({)}", "-4 @3: 5=0@0 | '{'");
        due.program("%{\n}", "-4 @3: |");
    }

    private static void openBraceAtTheEnd(Due due) {
        due.sentence("4 a { that is open still, at the tape's end");
        due.program("{", "-4 @1: 6=-1@0 |");
        due.program("{ ", "-4 @2: 6=-1@0 |");
        due.program("{ % }", "-4 @5: 6=-1@0 |");
        due.program("{{}", "-4 @3: 6=-1@0 6=2@1 7=1@2 |");
        due.program("{}{", "-4 @3: 6=1@0 7=0@1 6=-1@2 |");
        due.program("{(})", "-4 @4: 6=-1@0 5=0@1 | '}'");
        due.program("{{}}", "4 @4: 6=3@0 6=2@1 7=1@2 7=0@3 |");
    }

    private static void textWithoutEndBeforeOpenBrace(Due due) {
        due.sentence("a { that is open still, at the tape's end (2 first)");
        due.program("{(", "-2 @2: 6=-1@0 |");
        due.program("{<", "-2 @2: 6=-1@0 |");
        due.program("{{} (}", "-2 @6: 6=-1@0 6=2@1 7=1@2 |");
        due.program("{()", "-4 @3: 6=-1@0 5=0@1 | ''");
        due.program("{<>", "-4 @3: 6=-1@0 5=0@1 | ''");
    }

    private static void numberTooGreat(Due due) {
        due.sentence("5 a whole number that is not of 32 bits .., a real .., at its beginning");
        due.program("a{2147483647}", "4 @13: 3=0@0 6=3@1 1=2147483647@2 7=1@12 | 'a'");
        due.program("a{2147483648}", "-5 @2: 3=0@0 6=-1@1 | 'a'");
        due.program("a{-2147483648}", "4 @14: 3=0@0 6=3@1 1=-2147483648@2 7=1@13 | 'a'");
        due.program("a{-2147483649}", "-5 @2: 3=0@0 6=-1@1 | 'a'");
        due.program("a{16#ffffffff}", "4 @14: 3=0@0 6=3@1 1=-1@2 7=1@13 | 'a'");
        due.program("a{16#100000000}", "-5 @2: 3=0@0 6=-1@1 | 'a'");
        due.program("a{32767.5}", "4 @10: 3=0@0 6=3@1 2=2147450880@2 7=1@9 | 'a'");
        due.program("a{32768.0}", "-5 @2: 3=0@0 6=-1@1 | 'a'");
        due.program("/2147483648 (2147483648) 2147483648x", "3 @36: 4=0@0 5=0@12 3=1@25 | '2147483648' '2147483648x'");
    }

    private static void rowTooLong(Due due) {
        due.sentence("6 a row of 128 plain bytes, at the word's beginning");
        String most = Due.times(127, "x");
        due.program("{" + most + "}", "3 @129: 6=2@0 3=0@1 7=0@128 | '" + most + "'");
        due.program("{" + most + "x}", "-6 @1: 6=-1@0 |");
        due.program("{/" + most + "}", "3 @130: 6=2@0 4=0@1 7=0@129 | '" + most + "'");
        due.program("{/" + most + "x}", "-6 @1: 6=-1@0 |");
        due.program(Due.times(127, "9"), "-5 @0: |");
        due.program(Due.times(128, "9"), "-6 @0: |");
    }

    private static void bracesTooDeep(Due due) {
        due.sentence("7 a { that would be the 65th open one, there");
        Counted x = new Counted();
        Due.type(x, Due.times(64, " {"));
        due.is("64 open ones: only the end is wrong", x.cut(), -4);
        due.is("place()", x.place(), 128);
        due.is("words()", x.words(), 64);
        Due.type(x, Due.times(65, " {"));
        due.is("65 open ones", x.cut(), -7);
        due.is("place()", x.place(), 129);
        due.is("words()", x.words(), 64);
        due.is("kind(63)", x.kind(63), 6);
        due.is("kind(64)", x.kind(64), -1);
        Due.type(x, "{}" + Due.times(64, "{") + "}" + Due.times(2, "{"));
        due.is("a 65th open one behind two that are closed", x.cut(), -7);
        due.is("place()", x.place(), 68);
        due.is("words()", x.words(), 68);
    }

    // 16384 words need more than the 512 calls that are promised; the limit is tested as it is built.
    private static void wordsTooMany(Due due) {
        due.sentence("8 a word that would be one more than 16384, at its beginning");
        String almost = Due.times(MOST_WORDS - 1, "[");
        many(due, almost, MOST_WORDS - 1, MOST_WORDS - 1, MOST_WORDS - 1);
        many(due, almost + "a", MOST_WORDS, MOST_WORDS, MOST_WORDS);
        many(due, almost + "a \n%a", MOST_WORDS, MOST_WORDS + 4, MOST_WORDS);
        many(due, almost + "a b", -8, MOST_WORDS + 1, MOST_WORDS);
        many(due, almost + "a\n/b ", -8, MOST_WORDS + 1, MOST_WORDS);
        many(due, almost + "[[", -8, MOST_WORDS, MOST_WORDS);
        many(due, "{" + Due.times(MOST_WORDS - 2, "1 ") + "}", MOST_WORDS, 2 * MOST_WORDS - 2, MOST_WORDS);
        many(due, "{" + Due.times(MOST_WORDS - 1, "1 ") + "}", -8, 2 * MOST_WORDS - 1, MOST_WORDS);
        many(due, "{" + Due.times(MOST_WORDS - 1, "1 "), -4, 2 * MOST_WORDS - 1, MOST_WORDS);
    }

    private static void wordsTooManyWhateverElse(Due due) {
        due.sentence("8 .. whatever else is said of it");
        String most = Due.times(MOST_WORDS, "[");
        String before = Due.times(MOST_WORDS - 1, "[");
        String[] words = {")", ">", "(", "<", "<g>", "}", "2147483648", "32768.", "16#100000000", Due.times(128, "r"), "/" + Due.times(128, "r")};
        int[] reasons = {1, 1, 2, 2, 3, 4, 5, 5, 5, 6, 6};
        for (int k = 0; k < words.length; k++) {
            boolean insideText = reasons[k] == 2 || reasons[k] == 3;
            int place = insideText ? MOST_WORDS : MOST_WORDS - 1;
            many(due, before + words[k], -reasons[k], place, MOST_WORDS - 1);
            many(due, most + words[k], -8, MOST_WORDS, MOST_WORDS);
        }
        String deep = Due.times(64, "{");
        many(due, Due.times(MOST_WORDS - 65, "[") + deep + "{", -7, MOST_WORDS - 1, MOST_WORDS - 1);
        many(due, Due.times(MOST_WORDS - 64, "[") + deep + "{", -8, MOST_WORDS, MOST_WORDS);
    }

    private static void many(Due due, String program, int want, int place, int words) {
        Counted x = Counted.beyondPromise();
        Due.type(x, program);
        String told = " of " + program.length() + " bytes that end with " + Due.shown(program.substring(program.length() - 9));
        due.is("cut()" + told, x.cut(), want);
        due.is("place()" + told, x.place(), place);
        due.is("words()" + told, x.words(), words);
        due.is("kind() of the last word" + told, x.kind(words - 1) > 0 ? 1 : 0, 1);
        due.is("kind() behind it" + told, x.kind(words), -1);
    }

    private static void wordsBeforeThatAreThere(Due due) {
        due.sentence("-why when it is wrong (the words before that are there)");
        String before = "7 .5 a /b (c) {} ";
        String words = " 1=7@0 2=32768@2 3=0@5 4=1@7 5=2@10 6=6@14 7=5@15 | 'a' 'b' 'c'";
        due.program(before, "7 @17:" + words);
        due.program(before + ") z", "-1 @17:" + words);
        due.program(before + "> z", "-1 @17:" + words);
        due.program(before + "(z", "-2 @19:" + words);
        due.program(before + "<77", "-2 @20:" + words);
        due.program(before + "<77z> z", "-3 @20:" + words);
        due.program(before + "} z", "-4 @17:" + words);
        due.program(before + "9999999999 z", "-5 @17:" + words);
        due.program(before + "99999.9 z", "-5 @17:" + words);
        due.program(before + Due.times(128, "z") + " z", "-6 @17:" + words);
        due.program(before + "/" + Due.times(128, "z") + " z", "-6 @17:" + words);
    }

    private static void theFirstIsTold(Due due) {
        due.sentence("IT IS WRONG, why and where: what comes first is told");
        String[] wrong = {") ", "> ", "<g> ", "} ", "9999999999 ", "99999.9 ", Due.times(128, "r") + " ", Due.times(65, "{") + " "};
        int[] reasons = {1, 1, 3, 4, 5, 5, 6, 7};
        int[] places = {0, 0, 1, 0, 0, 0, 0, 64};
        for (int first = 0; first < wrong.length; first++) {
            for (String second : wrong) {
                Counted x = new Counted();
                Due.type(x, wrong[first] + second);
                String told = " of " + Due.shown(wrong[first] + second);
                due.is("cut()" + told, x.cut(), -reasons[first]);
                due.is("place()" + told, x.place(), places[first]);
            }
        }
        due.program(") (", "-1 @0: |");
        due.program("( )) (", "-1 @3: 5=0@0 | ' '");
        due.program("{ } } {", "-4 @4: 6=1@0 7=0@2 |");
        due.program("{ 9999999999", "-5 @2: 6=-1@0 |");
        due.program("{ <g", "-3 @3: 6=-1@0 |");
    }
}
