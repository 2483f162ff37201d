/** What the tests share: they compare answers with those that are due, and end with 1 if one was not. */
final class Due {
    private int asked = 0;
    private int wrong = 0;

    void is(String call, long got, long want) {
        asked++;
        if (got != want) {
            wrong++;
            System.out.println(call + " answered " + got + ", due is " + want);
        }
    }

    void is(String call, String got, String want) {
        asked++;
        if (!got.equals(want)) {
            wrong++;
            System.out.println(call + " answered\n  " + got + ", due is\n  " + want);
        }
    }

    /** A program on a new object; what is due is in the form of seen(). */
    void program(String program, String want) {
        PageWords x = new PageWords();
        type(x, program);
        is("program " + shown(program), seen(x, x.cut()), want);
    }

    void end() {
        System.out.println(wrong == 0 ? "all " + asked + " answers are as due" : wrong + " answers are not as due");
        if (wrong != 0) {
            System.exit(1);
        }
    }

    /** Types characters 0 .. 255 as bytes, eight with each call as long as there are eight. */
    static int type(PageWords x, String program) {
        int length = 0;
        for (int from = 0; from < program.length(); from += 8) {
            int to = Math.min(program.length(), from + 8);
            long bytes = 0;
            for (int k = from; k < to; k++) {
                bytes = bytes << 8 | program.charAt(k);
            }
            length = x.type(bytes, to - from);
        }
        return length;
    }

    /** "cut's answer @place: kind=number@begin .. | text text ..", from the answers of the object. */
    static String seen(PageWords x, int cut) {
        StringBuilder s = new StringBuilder();
        s.append(cut).append(" @").append(x.place()).append(':');
        int words = x.words();
        for (int w = 0; w < words; w++) {
            s.append(' ').append(x.kind(w)).append('=').append(x.number(w)).append('@').append(x.begin(w));
        }
        s.append(" |");
        int texts = x.texts();
        for (int t = 0; t < texts; t++) {
            StringBuilder text = new StringBuilder();
            int size = x.size(t);
            for (int k = 0; k < size; k++) {
                text.append((char) x.at(t, k));
            }
            s.append(' ').append(shown(text.toString()));
        }
        return s.toString();
    }

    /** In quotes; bytes that are no plain sign as ~ and two digits with base 16. */
    static String shown(String bytes) {
        StringBuilder s = new StringBuilder("'");
        for (int k = 0; k < bytes.length(); k++) {
            char c = bytes.charAt(k);
            if (c >= 32 && c < 127 && c != '~') {
                s.append(c);
            } else {
                s.append(String.format("~%02x", (int) c));
            }
        }
        return s.append('\'').toString();
    }

    static String times(int n, String s) {
        return s.repeat(n);
    }
}
