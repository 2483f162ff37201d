/** Promises 3, 4 and 5: how many words, or why it is wrong and where; and what is there then. */
public final class CutTest {
    public static void main(String[] args) {
        Due due = new Due();
        blanksAndComments(due);
        allIsNewWithEachCut(due);
        nothingBehindTheEnd(due);
        nothingToClose(due);
        textsWithoutEnd(due);
        noDigits(due);
        lonelyBraces(due);
        longRows(due);
        deepBraces(due);
        manyWords(due);
        due.end();
    }

    private static void blanksAndComments(Due due) {
        due.program("", "0 @0: |");
        due.program("\0\t\n\f\r ", "0 @6: |");
        due.program("a\0b\tc\nd\fe\rf g", "7 @13: 3=0@0 3=1@2 3=2@4 3=3@6 3=4@8 3=5@10 3=6@12 | 'a' 'b' 'c' 'd' 'e' 'f' 'g'");
        due.program("a\013b\010c\177d\240e", "1 @9: 3=0@0 | 'a~0bb~08c~7fd~a0e'");
        due.program("%", "0 @1: |");
        due.program("% all (<[{}])> \f\0 %% to the end", "0 @31: |");
        due.program("a%b\nc", "2 @5: 3=0@0 3=1@4 | 'a' 'c'");
        due.program("a%b\rc", "2 @5: 3=0@0 3=1@4 | 'a' 'c'");
        due.program("a%b\r\nc%", "2 @7: 3=0@0 3=1@5 | 'a' 'c'");
        due.program("%a\fb", "0 @4: |");
        due.program("(%a)%)", "1 @6: 5=0@0 | '%a'");
    }

    private static void allIsNewWithEachCut(Due due) {
        Counted x = new Counted();
        Due.type(x, "/a (b) {c} [");
        due.is("first cut()", Due.seen(x, x.cut()), "6 @12: 4=0@0 5=1@3 6=4@7 3=2@8 7=2@9 3=3@11 | 'a' 'b' 'c' '['");
        Due.type(x, "zz b");
        due.is("before the second", Due.seen(x, 6), "6 @12: 4=0@0 5=1@3 6=4@7 3=2@8 7=2@9 3=3@11 | 'a' 'b' 'c' '['");
        due.is("second cut()", Due.seen(x, x.cut()), "2 @4: 3=0@0 3=1@3 | 'zz' 'b'");
        Due.type(x, "a {{ )");
        due.is("third cut(), wrong", Due.seen(x, x.cut()), "-1 @5: 3=0@0 6=-1@2 6=-1@3 | 'a'");
        due.is("words() then", x.words(), 3);
        Due.type(x, "}");
        due.is("no brace is open still", Due.seen(x, x.cut()), "-4 @0: |");
        Due.type(x, "q (half");
        due.is("a wrong text is none", Due.seen(x, x.cut()), "-2 @7: 3=0@0 | 'q'");
        Due.type(x, "half q");
        due.is("nor is it later", Due.seen(x, x.cut()), "2 @6: 3=0@0 3=1@5 | 'half' 'q'");
        due.is("cut() of the tape that is empty now", Due.seen(x, x.cut()), "0 @0: |");
    }

    /** The bytes of a longer tape of before are no part of the shorter one. */
    private static void nothingBehindTheEnd(Due due) {
        Counted x = new Counted();
        Due.type(x, "x<<");
        due.is("a longer tape", Due.seen(x, x.cut()), "2 @3: 3=0@0 3=1@1 | 'x' '<<'");
        Due.type(x, "x<");
        due.is("a shorter one", Due.seen(x, x.cut()), "-2 @2: 3=0@0 | 'x'");
        Due.type(x, "x>>");
        due.is("a longer tape", Due.seen(x, x.cut()), "2 @3: 3=0@0 3=1@1 | 'x' '>>'");
        Due.type(x, "x>");
        due.is("a shorter one", Due.seen(x, x.cut()), "-1 @1: 3=0@0 | 'x'");
        Due.type(x, "1234");
        due.is("a longer tape", Due.seen(x, x.cut()), "1 @4: 1=1234@0 |");
        Due.type(x, "12");
        due.is("a shorter one", Due.seen(x, x.cut()), "1 @2: 1=12@0 |");
        Due.type(x, "(\\\\)");
        due.is("a longer tape", Due.seen(x, x.cut()), "1 @4: 5=0@0 | '\\'");
        Due.type(x, "(\\");
        due.is("a shorter one", Due.seen(x, x.cut()), "-2 @2: |");
        Due.type(x, "AaBB BB Aa BB Aa");
        due.is("texts that are the same", Due.seen(x, x.cut()), "5 @16: 3=0@0 3=1@5 3=2@8 3=1@11 3=2@14 | 'AaBB' 'BB' 'Aa'");
        Due.type(x, "Aa BB AaBB BB Aa");
        due.is("and in another order", Due.seen(x, x.cut()), "5 @16: 3=0@0 3=1@3 3=2@6 3=1@11 3=0@14 | 'Aa' 'BB' 'AaBB'");
    }

    private static void nothingToClose(Due due) {
        due.program(")", "-1 @0: |");
        due.program("a b) c", "-1 @3: 3=0@0 3=1@2 | 'a' 'b'");
        due.program("(()))", "-1 @4: 5=0@0 | '()'");
        due.program(">", "-1 @0: |");
        due.program("a > >", "-1 @2: 3=0@0 | 'a'");
        due.program(">>>", "-1 @2: 3=0@0 | '>>'");
        due.program("<41>>", "-1 @4: 5=0@0 | 'A'");
        due.program("<41>>>", "2 @6: 5=0@0 3=1@4 | 'A' '>>'");
        due.program("/>", "-1 @1: 4=0@0 | ''");
        due.program("]", "1 @1: 3=0@0 | ']'");
    }

    private static void textsWithoutEnd(Due due) {
        due.program("(", "-2 @1: |");
        due.program("a (b(c)", "-2 @7: 3=0@0 | 'a'");
        due.program("(b\\)", "-2 @4: |");
        due.program("(b\\", "-2 @3: |");
        due.program("(b\\1", "-2 @4: |");
        due.program("(b\\\r", "-2 @4: |");
        due.program("(b\r", "-2 @3: |");
        due.program("<", "-2 @1: |");
        due.program("<4142", "-2 @5: |");
        due.program("< 4 ", "-2 @4: |");
        due.program("{ (", "-2 @3: 6=-1@0 |");
        due.program("{ <", "-2 @3: 6=-1@0 |");
    }

    private static void noDigits(Due due) {
        due.program("<g>", "-3 @1: |");
        due.program("<G>", "-3 @1: |");
        due.program("<4 1 /a>", "-3 @5: |");
        due.program("<41%>\n>", "-3 @3: |");
        due.program("<41<42>>", "-3 @3: |");
        due.program("< <", "-3 @2: |");
        due.program("<4\013>", "-3 @2: |");
        due.program("<4:>", "-3 @2: |");
        due.program("<4@>", "-3 @2: |");
        due.program("<4`>", "-3 @2: |");
        due.program("<4g", "-3 @2: |");
        due.program("{x <-1>", "-3 @4: 6=-1@0 3=0@1 | 'x'");
    }

    private static void lonelyBraces(Due due) {
        due.program("}", "-4 @0: |");
        due.program("{} }", "-4 @3: 6=1@0 7=0@1 |");
        due.program("{", "-4 @1: 6=-1@0 |");
        due.program("{a {b} ", "-4 @7: 6=-1@0 3=0@1 6=4@3 3=1@4 7=2@5 | 'a' 'b'");
        due.program("{%}", "-4 @3: 6=-1@0 |");
        due.program("{({)}", "3 @5: 6=2@0 5=0@1 7=0@4 | '{'");
    }

    private static void longRows(Due due) {
        String most = Due.times(127, "r");
        due.program(most, "1 @127: 3=0@0 | '" + most + "'");
        due.program(" " + most + "r", "-6 @1: |");
        due.program(most + "[", "2 @128: 3=0@0 3=1@127 | '" + most + "' '['");
        due.program("/" + most, "1 @128: 4=0@0 | '" + most + "'");
        due.program("a /" + most + "r b", "-6 @2: 3=0@0 | 'a'");
        due.program(Due.times(300, "r"), "-6 @0: |");
        due.program(Due.times(127, "0"), "1 @127: 1=0@0 |");
        due.program(Due.times(128, "0"), "-6 @0: |");
        due.program(Due.times(128, "9"), "-6 @0: |");
        due.program(Due.times(127, "9"), "-5 @0: |");
        due.program("(" + Due.times(300, "r") + ")", "1 @302: 5=0@0 | '" + Due.times(300, "r") + "'");
        due.program("<" + Due.times(300, "41") + ">", "1 @602: 5=0@0 | '" + Due.times(300, "A") + "'");
    }

    private static void deepBraces(Due due) {
        Counted x = new Counted();
        Due.type(x, "a" + Due.times(64, "{"));
        due.is("64 open braces", x.cut(), -4);
        due.is("place()", x.place(), 65);
        due.is("words()", x.words(), 65);
        Due.type(x, "a" + Due.times(65, "{"));
        due.is("65 open braces", x.cut(), -7);
        due.is("place()", x.place(), 65);
        due.is("words()", x.words(), 65);
        due.is("number() of an open one", x.number(64), -1);
        Due.type(x, Due.times(100, "{}") + Due.times(64, "{") + "}{" + Due.times(64, "}"));
        due.is("64 open braces, again and again", x.cut(), 330);
        due.is("number() of the 64th", x.number(263), 264);
        due.is("number() of the one in its place", x.number(265), 266);
        due.is("number() of the first", x.number(200), 329);
        due.is("number() of the last", x.number(329), 200);
    }

    // An object is promised for 512 calls only, and these need more; they show the limit as it is built.
    private static void manyWords(Due due) {
        String most = Due.times(16383, "1 ") + "2";
        cutMany(due, most, 16384, 32767);
        cutMany(due, most + " % x\n", 16384, 32772);
        for (String more : new String[] {"x", "1", ")", ">", "}", "{", "(", "<", "<g>", "/", "[", Due.times(128, "r")}) {
            cutMany(due, most + " " + more, -8, 32768);
        }
        cutMany(due, Due.times(16383, "[") + "{", -4, 16384);
        cutMany(due, Due.times(16384, "/"), 16384, 16384);
        cutMany(due, Due.times(65536, "["), -8, 16384);
    }

    private static void cutMany(Due due, String program, int want, int place) {
        Counted x = Counted.beyondPromise();
        Due.type(x, program);
        String told = program.length() + " bytes that end with " + Due.shown(program.substring(program.length() - 3));
        due.is("cut() of " + told, x.cut(), want);
        due.is("place() of " + told, x.place(), place);
        due.is("words() of " + told, x.words(), 16384);
        due.is("kind(16383) of " + told, x.kind(16383) > 0 ? 1 : 0, 1);
        due.is("kind(16384) of " + told, x.kind(16384), -1);
    }
}
