/** Promise 2: bytes come behind the tape. */
public final class TypeTest {
    public static void main(String[] args) {
        Due due = new Due();
        howMany(due);
        wrongCounts(due);
        order(due);
        everyByte(due);
        tapeOfMostBytes(due);
        due.end();
    }

    private static void howMany(Due due) {
        Counted x = new Counted();
        int length = 0;
        for (int n = 1; n <= 8; n++) {
            length += n;
            due.is("type(-1, " + n + ")", x.type(-1L, n), length);
        }
        due.is("cut() of these", Due.seen(x, x.cut()), "1 @36: 3=0@0 | '" + Due.times(36, "~ff") + "'");
        due.is("type() behind a cut()", x.type(0x41, 1), 1);
        due.is("words() while it is typed", x.words(), 1);
        due.is("place() while it is typed", x.place(), 36);
    }

    private static void wrongCounts(Due due) {
        Counted x = new Counted();
        due.is("type(0x41, 1)", x.type(0x41, 1), 1);
        for (int n : new int[] {0, 9, -1, 10, 16, 64, 257, Integer.MIN_VALUE, Integer.MAX_VALUE}) {
            due.is("type(0x42, " + n + ")", x.type(0x42, n), -1);
        }
        due.is("the tape behind these", Due.seen(x, x.cut()), "1 @1: 3=0@0 | 'A'");
    }

    private static void order(Due due) {
        for (int n = 1; n <= 8; n++) {
            Counted x = new Counted();
            due.is("type(.., " + n + ")", x.type(0x4142434445464748L, n), n);
            due.is("the lowest " + n, Due.seen(x, x.cut()), "1 @" + n + ": 3=0@0 | '" + "ABCDEFGH".substring(8 - n) + "'");
        }
        Counted x = new Counted();
        due.is("a negative long", x.type(0x8142434445464748L, 8), 8);
        due.is("a negative long's bytes", Due.seen(x, x.cut()), "1 @8: 3=0@0 | '~81BCDEFGH'");
    }

    private static void everyByte(Due due) {
        for (int b = 0; b < 256; b++) {
            Counted x = new Counted();
            Due.type(x, "(" + "\\" + (char) b + ")");
            boolean other = "nrtbf01234567\n\r".indexOf(b) < 0;
            if (other) {
                due.is("byte " + b, Due.seen(x, x.cut()), "1 @4: 5=0@0 | " + Due.shown("" + (char) b));
            }
        }
    }

    // An object is promised for 512 calls only, and these need more; they show the limit as it is built.
    private static void tapeOfMostBytes(Due due) {
        Counted x = Counted.beyondPromise();
        for (int k = 0; k < 8191; k++) {
            x.type(0x2020202020202020L, 8);
        }
        due.is("the tape's length", x.type(0x2020202020202020L >>> 8, 7), 65535);
        due.is("8 bytes too many", x.type(0x4142434445464748L, 8), -3);
        due.is("one byte too many", x.type(0x4142, 2), -3);
        due.is("BAD before FULL", x.type(0x41, 9), -1);
        due.is("the last byte", x.type(0x41, 1), 65536);
        due.is("behind the last byte", x.type(0x42, 1), -3);
        due.is("cut() of the longest tape", Due.seen(x, x.cut()), "1 @65536: 3=0@65535 | 'A'");
        due.is("type() behind it", x.type(0x42, 1), 1);
    }
}
