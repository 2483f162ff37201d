/** Promises 1 to 11, one after the other: each refused call, and the calls just beside it. */
public final class CallEdgesTest {
    private static final int[] FAR = {-2, -64, -65536, Integer.MIN_VALUE, Integer.MIN_VALUE + 1, 64, 128, 16384, 65535, 65536, 1 << 30, Integer.MAX_VALUE - 1,
        Integer.MAX_VALUE};

    public static void main(String[] args) {
        Due due = new Due();
        newObject(due);
        typeOf1To8(due);
        typeIsRefused(due);
        lowestBytesHighestFirst(due);
        full(due);
        tapeIsEmptyThen(due);
        wordsAndTextsOfBeforeAreGone(due);
        placeOfTheLatestCut(due);
        howManyWords(due);
        kindOfNoSuchWord(due);
        numberOfNoSuchWord(due);
        numberOfBraces(due);
        beginOfNoSuchWord(due);
        howManyTexts(due);
        mostTexts(due);
        sizeOfNoSuchText(due);
        noSuchByte(due);
        askingChangesNothing(due);
        all512Calls(due);
        longestTapeIn512Calls(due);
        due.end();
    }

    private static void newObject(Due due) {
        due.sentence("Promise 1: An empty tape, no words");
        Counted x = new Counted();
        due.is("words()", x.words(), 0);
        due.is("texts()", x.texts(), 0);
        due.is("kind(0)", x.kind(0), -1);
        due.is("number(0)", x.number(0), -1);
        due.is("begin(0)", x.begin(0), -1);
        due.is("size(0)", x.size(0), -1);
        due.is("at(0, 0)", x.at(0, 0), -1);
        due.is("type('a', 1): the first byte", x.type('a', 1), 1);
        due.is("cut() of a new object", new Counted().cut(), 0);
    }

    private static void typeOf1To8(Due due) {
        due.sentence("Promise 2: The lowest n bytes come behind the tape: its length");
        for (int n = 1; n <= 8; n++) {
            Counted x = new Counted();
            due.is("type(.., " + n + ")", x.type(0x6161616161616161L, n), n);
            due.is("type(.., " + n + ") again", x.type(0x6161616161616161L, n), 2 * n);
            due.is("the tape", Due.seen(x, x.cut()), "1 @" + 2 * n + ": 3=0@0 | '" + Due.times(2 * n, "a") + "'");
        }
    }

    private static void typeIsRefused(Due due) {
        due.sentence("Promise 2: BAD when n is not 1 .. 8");
        Counted x = new Counted();
        due.is("type(.., 0) on an empty tape", x.type('b', 0), -1);
        due.is("type(.., 9) on an empty tape", x.type('b', 9), -1);
        due.is("type('a', 1)", x.type('a', 1), 1);
        for (int n : new int[] {0, -1, 9, 10, -8, 16, 32, 64, 255, 256, 257, 65537, 1 << 28, 1 << 29, (1 << 29) + 1, Integer.MIN_VALUE, Integer.MIN_VALUE + 1,
            Integer.MAX_VALUE}) {
            due.is("type(.., " + n + ")", x.type(0x6262626262626262L, n), -1);
        }
        due.is("type('c', 1): the refused bytes are not there", x.type('c', 1), 2);
        due.is("the tape", Due.seen(x, x.cut()), "1 @2: 3=0@0 | 'ac'");
        due.is("type(.., 0) behind a cut()", x.type('b', 0), -1);
        due.is("words() are still there", Due.seen(x, 1), "1 @2: 3=0@0 | 'ac'");
    }

    private static void lowestBytesHighestFirst(Due due) {
        due.sentence("Promise 2: The lowest n bytes of bytes, the highest of them first");
        String all = "\201\202\203\204\205\206\207\210";
        for (int n = 1; n <= 8; n++) {
            Counted x = new Counted();
            x.type(0x8182838485868788L, n);
            due.is("type(0x8182.., " + n + ")", Due.seen(x, x.cut()), "1 @" + n + ": 3=0@0 | " + Due.shown(all.substring(8 - n)));
            Counted y = new Counted();
            y.type('(', 1);
            y.type(-1L << 8 * (n - 1), n);
            y.type(')', 1);
            due.is("type(-1 << .., " + n + ")", Due.seen(y, y.cut()), "1 @" + (n + 2) + ": 5=0@0 | " + Due.shown("\377" + Due.times(n - 1, "\0")));
        }
        for (long bytes : new long[] {0L, -1L, Long.MIN_VALUE, Long.MAX_VALUE}) {
            Counted x = new Counted();
            x.type('(', 1);
            due.is("type(" + bytes + ", 8)", x.type(bytes, 8), 9);
            x.type(')', 1);
            StringBuilder want = new StringBuilder();
            for (int k = 7; k >= 0; k--) {
                want.append((char) (bytes >> 8 * k & 255));
            }
            due.is("its bytes", Due.seen(x, x.cut()), "1 @10: 5=0@0 | " + Due.shown(want.toString()));
        }
    }

    // 65536 bytes need more than the 512 calls that are promised; the limit is tested as it is built.
    private static void full(Due due) {
        due.sentence("Promise 2: FULL when there would be more than 65536");
        for (int n = 1; n <= 8; n++) {
            Counted x = Counted.beyondPromise();
            Due.type(x, Due.times(65536 - n - 1, " ") + "a");
            due.is("type(.., " + n + ") up to 65536", x.type(0x6262626262626262L, n), 65536);
            due.is("type(.., 1) behind these", x.type('c', 1), -3);
            due.is("type(.., 8) behind these", x.type('c', 8), -3);
            due.is("type(.., 0) behind these", x.type('c', 0), -1);
            due.is("type(.., 9) behind these", x.type('c', 9), -1);
            due.is("the tape", Due.seen(x, x.cut()), "1 @65536: 3=0@" + (65536 - n - 1) + " | 'a" + Due.times(n, "b") + "'");
            due.is("type(.., " + n + ") on the empty tape", x.type('d', n), n);

            Counted y = Counted.beyondPromise();
            Due.type(y, Due.times(65536 - n, " ") + "a");
            due.is("type(.., " + n + ") up to 65537", y.type(0x6262626262626262L, n), -3);
            due.is("the tape without these", Due.seen(y, y.cut()), "1 @" + (65537 - n) + ": 3=0@" + (65536 - n) + " | 'a'");
        }
    }

    private static void tapeIsEmptyThen(Due due) {
        due.sentence("Promise 3: The tape is cut, and is empty then");
        for (String program : new String[] {"", "a", "a b", ")", "(", "<g", "}", "{", "9999999999", Due.times(128, "r"), Due.times(65, "{")}) {
            Counted x = new Counted();
            Due.type(x, program);
            x.cut();
            due.is("type('z', 1) behind cut() of " + Due.shown(program), x.type('z', 1), 1);
            due.is("the tape", Due.seen(x, x.cut()), "1 @1: 3=0@0 | 'z'");
            due.is("cut() again", Due.seen(x, x.cut()), "0 @0: |");
        }
    }

    private static void wordsAndTextsOfBeforeAreGone(Due due) {
        due.sentence("Promise 3: words and texts of before are gone");
        for (String program : new String[] {"a b {c}", "a b {c", "a b (c) )", "a b (c", "a b <c", "a b <6z"}) {
            Counted x = new Counted();
            Due.type(x, program);
            x.cut();
            due.is("cut() of an empty tape behind " + Due.shown(program), Due.seen(x, x.cut()), "0 @0: |");
            due.is("kind(0)", x.kind(0), -1);
            due.is("number(0)", x.number(0), -1);
            due.is("begin(0)", x.begin(0), -1);
            due.is("size(0)", x.size(0), -1);
            due.is("at(0, 0)", x.at(0, 0), -1);
            Due.type(x, program);
            x.cut();
            Due.type(x, "c } b");
            due.is("a wrong cut() behind it", Due.seen(x, x.cut()), "-4 @2: 3=0@0 | 'c'");
            Due.type(x, "c b");
            due.is("a right one behind that", Due.seen(x, x.cut()), "2 @3: 3=0@0 3=1@2 | 'c' 'b'");
        }
    }

    private static void placeOfTheLatestCut(Due due) {
        due.sentence("Promise 4: Where it was wrong in the latest cut(); the tape's length when it was not; 0 before");
        Counted x = new Counted();
        due.is("place() of a new object", x.place(), 0);
        due.is("type(.., 3)", x.type(0x612920, 3), 3);
        due.is("place() before a cut()", x.place(), 0);
        due.is("cut() of 'a) '", x.cut(), -1);
        due.is("place() where it was wrong", x.place(), 1);
        due.is("type(.., 4)", x.type(0x20206120, 4), 4);
        due.is("place() while it is typed", x.place(), 1);
        due.is("type(.., 0)", x.type('a', 0), -1);
        due.is("place() behind a refused call", x.place(), 1);
        due.is("cut() of '  a '", x.cut(), 1);
        due.is("place() when it was not wrong", x.place(), 4);
        due.is("type(.., 1)", x.type('{', 1), 1);
        due.is("place() while it is typed", x.place(), 4);
        due.is("cut() of '{'", x.cut(), -4);
        due.is("place() at the tape's end", x.place(), 1);
        due.is("cut() of nothing", x.cut(), 0);
        due.is("place() of nothing", x.place(), 0);
    }

    private static void howManyWords(Due due) {
        due.sentence("Promise 5: How many words there are");
        Counted x = new Counted();
        due.is("words() of a new object", x.words(), 0);
        Due.type(x, "a b c");
        due.is("words() before a cut()", x.words(), 0);
        due.is("cut()", x.cut(), 3);
        due.is("words() behind it", x.words(), 3);
        Due.type(x, "a )");
        due.is("words() while it is typed", x.words(), 3);
        due.is("cut()", x.cut(), -1);
        due.is("words() before what is wrong", x.words(), 1);
        Due.type(x, ") a");
        due.is("cut()", x.cut(), -1);
        due.is("words() when the first is wrong", x.words(), 0);
        Due.type(x, " %a");
        due.is("cut()", x.cut(), 0);
        due.is("words() of blanks and a comment", x.words(), 0);
        for (int count : new int[] {63, 64, 65, 127, 128, 129, 255, 256, 257}) {
            Counted y = new Counted();
            Due.type(y, Due.times(count, "1 "));
            due.is("cut()", y.cut(), count);
            due.is("words()", y.words(), count);
            due.is("begin() of the last", y.begin(count - 1), 2 * count - 2);
            due.is("begin() behind it", y.begin(count), -1);
        }
    }

    private static void kindOfNoSuchWord(Due due) {
        due.sentence("Promise 6: A word's kind; BAD when there is no such word");
        Counted x = cutOf("7 .5 a /b (c){}");
        int[] kinds = {1, 2, 3, 4, 5, 6, 7};
        for (int w = 0; w < kinds.length; w++) {
            due.is("kind(" + w + ")", x.kind(w), kinds[w]);
        }
        due.is("kind(-1)", x.kind(-1), -1);
        due.is("kind(7)", x.kind(7), -1);
        for (int w : FAR) {
            due.is("kind(" + w + ")", x.kind(w), -1);
        }
        Counted y = cutOf("7 8 )");
        due.is("kind(1) before what was wrong", y.kind(1), 1);
        due.is("kind(2) of what was wrong", y.kind(2), -1);
    }

    private static void numberOfNoSuchWord(Due due) {
        due.sentence("Promise 7: A whole number; a real's 65536ths; the number of a TEXT. BAD when there is no such word");
        Counted x = cutOf("7 .5 a /b (c){}");
        int[] numbers = {7, 32768, 0, 1, 2, 6, 5};
        for (int w = 0; w < numbers.length; w++) {
            due.is("number(" + w + ")", x.number(w), numbers[w]);
        }
        due.is("number(-1)", x.number(-1), -1);
        due.is("number(7)", x.number(7), -1);
        for (int w : FAR) {
            due.is("number(" + w + ")", x.number(w), -1);
        }
        Counted y = cutOf("7 8 9999999999");
        due.is("number(1) before what was wrong", y.number(1), 8);
        due.is("number(2) of what was wrong", y.number(2), -1);
    }

    private static void numberOfBraces(Due due) {
        due.sentence("Promise 7: of { the word of its }, of } that of its { (BAD while it has none)");
        due.program("{}", "2 @2: 6=1@0 7=0@1 |");
        due.program("{{}{}}", "6 @6: 6=5@0 6=2@1 7=1@2 6=4@3 7=3@4 7=0@5 |");
        due.program("a{1}", "4 @4: 3=0@0 6=3@1 1=1@2 7=1@3 | 'a'");
        due.program("{", "-4 @1: 6=-1@0 |");
        due.program("{{}", "-4 @3: 6=-1@0 6=2@1 7=1@2 |");
        due.program("{}{", "-4 @3: 6=1@0 7=0@1 6=-1@2 |");
        due.program("{{} )", "-1 @4: 6=-1@0 6=2@1 7=1@2 |");
        due.program("{} )", "-1 @3: 6=1@0 7=0@1 |");
        due.program("{{{ )", "-1 @4: 6=-1@0 6=-1@1 6=-1@2 |");
    }

    private static void beginOfNoSuchWord(Due due) {
        due.sentence("Promise 8: Where a word begins; BAD");
        Counted x = cutOf("7 .5 a /b (c){}");
        int[] begins = {0, 2, 5, 7, 10, 13, 14};
        for (int w = 0; w < begins.length; w++) {
            due.is("begin(" + w + ")", x.begin(w), begins[w]);
        }
        due.is("begin(-1)", x.begin(-1), -1);
        due.is("begin(7)", x.begin(7), -1);
        for (int w : FAR) {
            due.is("begin(" + w + ")", x.begin(w), -1);
        }
        Counted y = cutOf("7 8 (");
        due.is("begin(1) before what was wrong", y.begin(1), 2);
        due.is("begin(2) of what was wrong", y.begin(2), -1);
    }

    private static void howManyTexts(Due due) {
        due.sentence("Promise 9: How many texts there are");
        Counted x = new Counted();
        due.is("texts() of a new object", x.texts(), 0);
        Due.type(x, "a /b (c) <64> a [");
        due.is("texts() before a cut()", x.texts(), 0);
        due.is("cut()", x.cut(), 6);
        due.is("texts()", x.texts(), 5);
        Due.type(x, "1 .5 {}");
        due.is("texts() while it is typed", x.texts(), 5);
        due.is("cut()", x.cut(), 4);
        due.is("texts() of words without any", x.texts(), 0);
        Due.type(x, "/");
        due.is("cut()", x.cut(), 1);
        due.is("texts() with an empty one", x.texts(), 1);
        for (String wrong : new String[] {"a (b", "a <62", "a <62z>", "a )b", "a 9999999999", "a " + Due.times(128, "r"), "a /" + Due.times(128, "r")}) {
            due.is("texts() of " + Due.shown(wrong), cutOf(wrong).texts(), 1);
        }
    }

    // As many texts as words need more than the 512 calls that are promised; the limit is tested as it is built.
    private static void mostTexts(Due due) {
        due.sentence("Promise 9: How many texts there are: each word may have its own");
        differentTexts(due, new Counted(), 960);
        differentTexts(due, Counted.beyondPromise(), 16384);
    }

    private static void differentTexts(Due due, Counted x, int texts) {
        StringBuilder program = new StringBuilder();
        for (int t = 0; t < texts; t++) {
            program.append(differentName(t)).append(' ');
        }
        Due.type(x, program.toString());
        due.is("cut() of " + texts + " different names", x.cut(), texts);
        due.is("texts()", x.texts(), texts);
        for (int t : new int[] {0, texts / 2, texts - 1}) {
            due.is("number(" + t + ")", x.number(t), t);
            due.is("size(" + t + ")", x.size(t), 3);
            for (int k = 0; k < 3; k++) {
                due.is("at(" + t + ", " + k + ")", x.at(t, k), differentName(t).charAt(k));
            }
        }
        due.is("size(" + texts + ")", x.size(texts), -1);
    }

    private static String differentName(int t) {
        return "" + (char) ('a' + t % 26) + (char) ('A' + t / 26 % 26) + (char) ('a' + t / 676);
    }

    private static void sizeOfNoSuchText(Due due) {
        due.sentence("Promise 10: How many bytes a text has; BAD when there is no such text");
        Counted x = cutOf("/ a (bcd) 7 (\\0\\0)");
        due.is("size(0)", x.size(0), 0);
        due.is("size(1)", x.size(1), 1);
        due.is("size(2)", x.size(2), 3);
        due.is("size(3)", x.size(3), 2);
        due.is("size(4): a word more than texts", x.size(4), -1);
        due.is("size(-1)", x.size(-1), -1);
        for (int t : FAR) {
            due.is("size(" + t + ")", x.size(t), -1);
        }
        due.is("size(1) of a text that is wrong", cutOf("a (b").size(1), -1);
        due.is("size(0) of a long text", cutOf("(" + Due.times(4000, "r") + ")").size(0), 4000);
    }

    private static void noSuchByte(Due due) {
        due.sentence("Promise 11: Byte k of a text, 0 .. 255; BAD when there is none such");
        Counted x = cutOf("/ (a\\377\\0) z");
        due.is("at(0, 0) of an empty text", x.at(0, 0), -1);
        due.is("at(1, -1)", x.at(1, -1), -1);
        due.is("at(1, 0)", x.at(1, 0), 'a');
        due.is("at(1, 1)", x.at(1, 1), 255);
        due.is("at(1, 2)", x.at(1, 2), 0);
        due.is("at(1, 3)", x.at(1, 3), -1);
        due.is("at(2, -1)", x.at(2, -1), -1);
        due.is("at(2, 0)", x.at(2, 0), 'z');
        due.is("at(2, 1)", x.at(2, 1), -1);
        due.is("at(3, 0)", x.at(3, 0), -1);
        due.is("at(-1, 0)", x.at(-1, 0), -1);
        for (int far : FAR) {
            due.is("at(1, " + far + ")", x.at(1, far), -1);
            due.is("at(2, " + far + ")", x.at(2, far), -1);
            due.is("at(" + far + ", 0)", x.at(far, 0), -1);
            due.is("at(" + far + ", " + far + ")", x.at(far, far), -1);
        }
        for (int b = 0; b < 256; b++) {
            Counted y = cutOf("(\\" + (char) ('0' + b / 64) + (char) ('0' + b / 8 % 8) + (char) ('0' + b % 8) + ")");
            due.is("at(0, 0) of byte " + b, y.at(0, 0), b);
        }
        Counted z = cutOf("a (bc");
        due.is("at(0, 0) before what was wrong", z.at(0, 0), 'a');
        due.is("at(0, 1) before what was wrong", z.at(0, 1), -1);
        due.is("at(1, 0) of what was wrong", z.at(1, 0), -1);
    }

    private static void askingChangesNothing(Due due) {
        due.sentence("Nothing is promised beyond the answers and state changes described: asking changes nothing");
        Counted x = new Counted();
        Due.type(x, "a (b) ");
        Due.seen(x, 0);
        Due.type(x, "{c}");
        String want = "5 @9: 3=0@0 5=1@2 6=4@6 3=2@7 7=2@8 | 'a' 'b' 'c'";
        due.is("cut()", Due.seen(x, x.cut()), want);
        due.is("asked again", Due.seen(x, 5), want);
        for (int far : FAR) {
            x.kind(far);
            x.number(far);
            x.begin(far);
            x.size(far);
            x.at(far, far);
        }
        due.is("asked behind refused calls", Due.seen(x, 5), want);
    }

    private static void all512Calls(Due due) {
        due.sentence("An object is used for at most 512 calls after it has been made");
        Counted x = new Counted();
        String program = "/a 1.5 {(b) c} ";
        for (int round = 0; x.calls() + 60 <= Counted.PROMISED; round++) {
            Due.type(x, program);
            due.is("round " + round, Due.seen(x, x.cut()), "6 @15: 4=0@0 2=98304@3 6=5@7 5=1@8 3=2@12 7=2@13 | 'a' 'b' 'c'");
        }
        while (x.calls() < Counted.PROMISED - 3) {
            due.is("place()", x.place(), 15);
        }
        due.is("call 510, type()", x.type(0x7a29, 2), 2);
        due.is("call 511, cut()", x.cut(), -1);
        due.is("call 512, place()", x.place(), 1);
        due.is("calls", x.calls(), 512);
    }

    private static void longestTapeIn512Calls(Due due) {
        due.sentence("at most 512 calls: the longest tape and the most words that they can make");
        Counted x = new Counted();
        due.is("507 calls", Due.type(x, Due.times(4056, "/")), 4056);
        due.is("cut()", x.cut(), 4056);
        due.is("place()", x.place(), 4056);
        due.is("begin(4055)", x.begin(4055), 4055);
        due.is("begin(4056)", x.begin(4056), -1);
        due.is("texts()", x.texts(), 1);
        Counted y = new Counted();
        due.is("508 calls", Due.type(y, "(" + Due.times(4062, "r") + ")"), 4064);
        due.is("cut()", y.cut(), 1);
        due.is("size(0)", y.size(0), 4062);
        due.is("at(0, 4061)", y.at(0, 4061), 'r');
        due.is("at(0, 4062)", y.at(0, 4062), -1);
    }

    private static Counted cutOf(String program) {
        Counted x = new Counted();
        Due.type(x, program);
        x.cut();
        return x;
    }
}
