/** What the tests share: they compare answers with those that are due, and end with 1 if one was not. */
final class Due {
    private static final long LONGEST_MILLIS = 120_000;

    private int asked = 0;
    private int wrong = 0;
    private String sentence = "";

    Due() {
        Thread watch = new Thread(Due::endIfTooLong);
        watch.setDaemon(true);
        watch.start();
    }

    /** A call that never ends is an answer that is not due, too. */
    private static void endIfTooLong() {
        try {
            Thread.sleep(LONGEST_MILLIS);
        } catch (InterruptedException e) {
            return;
        }
        System.out.println("the test did not end");
        Runtime.getRuntime().halt(1);
    }

    /** The sentence of the document that the next answers are about. */
    void sentence(String told) {
        sentence = told.isEmpty() ? "" : "[" + told + "] ";
    }

    void is(String call, long got, long want) {
        asked++;
        if (got != want) {
            wrong++;
            System.out.println(sentence + call + " answered " + got + ", due is " + want);
        }
    }

    void is(String call, String got, String want) {
        asked++;
        if (!got.equals(want)) {
            wrong++;
            System.out.println(sentence + call + " answered\n  " + got + ", due is\n  " + want);
        }
    }

    /** A program on a new object; what is due is in the form of seen(). */
    void program(String program, String want) {
        Counted x = new Counted();
        type(x, program);
        is("program " + shown(program), seen(x, x.cut()), want);
    }

    void whole(String row, int number) {
        row(row, "1=" + number, "");
    }

    void real(String row, int number) {
        row(row, "2=" + number, "");
    }

    void name(String row) {
        row(row, "3=0", " " + shown(row));
    }

    /** A row as the only word, up to the tape's end and between blanks. */
    private void row(String row, String word, String texts) {
        program(row, "1 @" + row.length() + ": " + word + "@0 |" + texts);
        program("\n" + row + " ", "1 @" + (row.length() + 2) + ": " + word + "@1 |" + texts);
    }

    /** A number that is wrong for reason 5. */
    void tooGreat(String row) {
        program(row, "-5 @0: |");
        program("a " + row + " b", "-5 @2: 3=0@0 | 'a'");
    }

    /** A program that is one text, of these bytes. */
    void text(String program, String bytes) {
        program(program, "1 @" + program.length() + ": 5=0@0 | " + shown(bytes));
    }

    void end() {
        System.out.println(wrong == 0 ? "all " + asked + " answers are as due" : wrong + " answers are not as due");
        if (wrong != 0) {
            System.exit(1);
        }
    }

    /** Types characters 0 .. 255 as bytes, eight with each call as long as there are eight. */
    static int type(Counted x, String program) {
        int length = 0;
        for (int from = 0; from < program.length(); from += 8) {
            int to = Math.min(program.length(), from + 8);
            long bytes = 0;
            for (int k = from; k < to; k++) {
                bytes = bytes << 8 | program.charAt(k);
            }
            length = x.type(bytes, to - from);
        }
        return length;
    }

    /** "cut's answer @place: kind=number@begin .. | text text ..", from the answers of the object. */
    static String seen(Counted x, int cut) {
        StringBuilder s = new StringBuilder();
        s.append(cut).append(" @").append(x.place()).append(':');
        int words = x.words();
        for (int w = 0; w < words; w++) {
            s.append(' ').append(x.kind(w)).append('=').append(x.number(w)).append('@').append(x.begin(w));
        }
        s.append(" |");
        int texts = x.texts();
        for (int t = 0; t < texts; t++) {
            StringBuilder text = new StringBuilder();
            int size = x.size(t);
            for (int k = 0; k < size; k++) {
                text.append((char) x.at(t, k));
            }
            s.append(' ').append(shown(text.toString()));
        }
        return s.toString();
    }

    /** In quotes; bytes that are no plain sign as ~ and two digits with base 16. */
    static String shown(String bytes) {
        StringBuilder s = new StringBuilder("'");
        for (int k = 0; k < bytes.length(); k++) {
            char c = bytes.charAt(k);
            if (c >= 32 && c < 127 && c != '~') {
                s.append(c);
            } else {
                s.append(String.format("~%02x", (int) c));
            }
        }
        return s.append('\'').toString();
    }

    static String times(int n, String s) {
        return s.repeat(n);
    }
}
