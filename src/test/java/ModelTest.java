import java.math.BigDecimal;
import java.math.BigInteger;
import java.math.RoundingMode;
import java.util.ArrayDeque;
import java.util.ArrayList;
import java.util.LinkedHashMap;
import java.util.List;
import java.util.Map;
import java.util.regex.Matcher;
import java.util.regex.Pattern;

/** Many programs, made of pieces, against a second way to cut them that is written for this test alone. */
public final class ModelTest {
    private static final String[] PIECES = {
        " ", " ", " ", "\n", "\r", "\r\n", "\t", "\0", "\f", "%", "% c\n", "(", ")", "(", ")", "<", ">", "<<", ">>", "[", "]", "{", "}", "{",
        "}", "/", "/a", "a", "b", "ab", "x", "e", "E", "f", "F", "g", "z", "Z", "0", "1", "2", "7", "8", "9", "10", "36", "16#", "2#", "#", ".",
        "+", "-", "e5", "e-3", "E+2", "\\", "\\n", "\\1", "\\12", "\\777", "\\(", "\\)", "\\\n", "\\\r\n", "(a)", "(b(c))", "<61>", "<6 1 6>",
        "2147483647", "2147483648", "32767.9999923706054687", ".00000762939453125", "-.00000762939453125", "16#FFFFFFFF", "1.5", "-2.25",
        "\200", "\377", "rrrrrrrrrrrrrrrrrrrrrrrrrrrrrrrrrrrrrrrrrrr", "0000000000000000000000000000000000000000000"};

    private static final Pattern WHOLE = Pattern.compile("[+-]?[0-9]+");
    private static final Pattern BASED = Pattern.compile("([0-9]{1,2})#([0-9a-zA-Z]+)");
    private static final Pattern REAL =
            Pattern.compile("([+-]?(?:[0-9]+\\.[0-9]*|\\.[0-9]+))(?:[eE]([+-]?[0-9]+))?|([+-]?[0-9]+)[eE]([+-]?[0-9]+)");
    private static final Pattern SKIP = Pattern.compile("(?:[\\x00\\t\\n\\f\\r ]|%[^\\n\\r]*)+");
    private static final Pattern ROW = Pattern.compile("[^\\x00\\t\\n\\f\\r ()<>\\[\\]{}/%]*");

    private static long seed = 1;

    public static void main(String[] args) {
        Due due = new Due();
        Counted used = new Counted();
        for (int run = 0; run < 60000; run++) {
            String program = anyProgram();
            String want = new Model(program).seen();
            due.program(program, want);
            // An object that has cut other programs: nothing of before may be left.
            if (run % 4 == 0) {
                used = new Counted();
            }
            Due.type(used, program);
            due.is("program " + Due.shown(program) + " on a used object", Due.seen(used, used.cut()), want);
        }
        for (int run = 0; run < 40000; run++) {
            String program = anyReal();
            due.program(program, new Model(program).seen());
        }
        due.end();
    }

    private static int any(int below) {
        seed = seed * 6364136223846793005L + 1442695040888963407L;
        return (int) ((seed >>> 33) % below);
    }

    private static String anyProgram() {
        StringBuilder s = new StringBuilder();
        int pieces = 1 + any(12);
        for (int k = 0; k < pieces; k++) {
            s.append(PIECES[any(PIECES.length)]);
        }
        return s.toString();
    }

    /** Numbers near half of a 65536th, and with exponents that move their points. */
    private static String anyReal() {
        BigDecimal exact = new BigDecimal(any(2) == 0 ? any(10) : Integer.MAX_VALUE - any(4)).multiply(new BigDecimal("2"))
                .add(BigDecimal.ONE).divide(new BigDecimal(131072));
        exact = exact.add(new BigDecimal(BigInteger.valueOf(any(3) - 1), 20 + any(60)));
        int shift = any(120) - 60;
        String digits = exact.scaleByPowerOfTen(-shift).toPlainString();
        String sign = any(2) == 0 ? "-" : any(2) == 0 ? "+" : "";
        return sign + digits.replace("-", "") + (digits.contains(".") ? "" : ".") + "e" + shift;
    }

    private static final class Model {
        private final String tape;
        private final List<String> words = new ArrayList<>();
        private final List<Integer> openers = new ArrayList<>();
        private final ArrayDeque<Integer> open = new ArrayDeque<>();
        private final Map<String, Integer> texts = new LinkedHashMap<>();
        private int here = 0;
        private int why = 0;
        private int where;

        Model(String tape) {
            this.tape = tape;
            where = tape.length();
            skip();
            while (why == 0 && here < tape.length()) {
                word();
                skip();
            }
            if (why == 0 && !open.isEmpty()) {
                wrong(4, tape.length());
            }
        }

        String seen() {
            StringBuilder s = new StringBuilder();
            s.append(why == 0 ? words.size() : -why).append(" @").append(where).append(':');
            for (int w = 0; w < words.size(); w++) {
                s.append(' ').append(words.get(w).replace("?", String.valueOf(openers.get(w))));
            }
            s.append(" |");
            for (String text : texts.keySet()) {
                s.append(' ').append(Due.shown(text));
            }
            return s.toString();
        }

        private void wrong(int reason, int place) {
            why = reason;
            where = place;
        }

        private void skip() {
            Matcher m = SKIP.matcher(tape).region(here, tape.length());
            if (m.lookingAt()) {
                here = m.end();
            }
        }

        private void add(int kind, String number, int length) {
            words.add(kind + "=" + number + "@" + here);
            openers.add(-1);
            here += length;
        }

        private void addText(int kind, String text, int length) {
            texts.putIfAbsent(text, texts.size());
            add(kind, String.valueOf(texts.get(text)), length);
        }

        private void word() {
            String rest = tape.substring(here);
            char c = rest.charAt(0);
            if (rest.startsWith("<<") || rest.startsWith(">>")) {
                addText(3, rest.substring(0, 2), 2);
            } else if (c == '[' || c == ']') {
                addText(3, rest.substring(0, 1), 1);
            } else if (c == ')' || c == '>') {
                wrong(1, here);
            } else if (c == '{' || c == '}') {
                brace(c);
            } else if (c == '(') {
                brackets();
            } else if (c == '<') {
                pairs(rest);
            } else {
                row(rest, c == '/' ? 1 : 0);
            }
        }

        private void brace(char c) {
            if (c == '{' && open.size() == 64) {
                wrong(7, here);
            } else if (c == '{') {
                open.push(words.size());
                add(6, "?", 1);
            } else if (open.isEmpty()) {
                wrong(4, here);
            } else {
                openers.set(open.peek(), words.size());
                add(7, String.valueOf(open.pop()), 1);
            }
        }

        private void pairs(String rest) {
            Matcher m = Pattern.compile("<([0-9a-fA-F\\x00\\t\\n\\f\\r ]*)").matcher(rest);
            m.lookingAt();
            if (m.end() == rest.length()) {
                wrong(2, tape.length());
            } else if (rest.charAt(m.end()) != '>') {
                wrong(3, here + m.end());
            } else {
                String digits = m.group(1).replaceAll("[^0-9a-fA-F]", "");
                digits += digits.length() % 2 == 0 ? "" : "0";
                StringBuilder text = new StringBuilder();
                for (int k = 0; k < digits.length(); k += 2) {
                    text.append((char) Integer.parseInt(digits.substring(k, k + 2), 16));
                }
                addText(5, text.toString(), m.end() + 1);
            }
        }

        /** First the pieces of the text by one pattern, then what each of them means. */
        private void brackets() {
            Matcher m = Pattern.compile("\\\\(?:[0-7]{1,3}|\\r\\n|[\\x00-\\xff])|\\r\\n|[\\x00-\\xff]").matcher(tape).region(here, tape.length());
            StringBuilder text = new StringBuilder();
            int depth = 0;
            while (m.lookingAt()) {
                String piece = m.group();
                depth += piece.equals("(") ? 1 : piece.equals(")") ? -1 : 0;
                if (depth == 0) {
                    addText(5, text.substring(1), m.end() - here);
                    return;
                }
                text.append(piece.equals("\\") ? "" : meaning(piece));
                m.region(m.end(), tape.length());
            }
            wrong(2, tape.length());
        }

        private static String meaning(String piece) {
            if (piece.startsWith("\r")) {
                return "\n";
            }
            if (!piece.startsWith("\\")) {
                return piece;
            }
            String behind = piece.substring(1);
            if (behind.matches("[0-7]+")) {
                return String.valueOf((char) (Integer.parseInt(behind, 8) % 256));
            }
            if (behind.matches("[\\r\\n]+")) {
                return "";
            }
            int known = "nrtbf".indexOf(behind);
            return known < 0 ? behind : "\n\r\t\b\f".substring(known, known + 1);
        }

        private void row(String rest, int slash) {
            Matcher m = ROW.matcher(rest).region(slash, rest.length());
            m.lookingAt();
            String row = m.group();
            if (row.length() > 127) {
                wrong(6, here);
            } else if (slash == 1) {
                addText(4, row, m.end());
            } else if (WHOLE.matcher(row).matches()) {
                BigInteger n = new BigInteger(row.replace("+", ""));
                number(1, n, n.bitLength() < 32, row.length());
            } else if (isBased(row)) {
                BigInteger n = new BigInteger(row.substring(row.indexOf('#') + 1), base(row));
                number(1, n, n.bitLength() < 33, row.length());
            } else if (REAL.matcher(row).matches()) {
                BigInteger n = rounded(row);
                number(2, n, n.abs().compareTo(BigInteger.ONE.shiftLeft(31)) < 0, row.length());
            } else {
                addText(3, row, row.length());
            }
        }

        private void number(int kind, BigInteger n, boolean fits, int length) {
            if (fits) {
                add(kind, String.valueOf(n.intValue()), length);
            } else {
                wrong(5, here);
            }
        }

        private static int base(String row) {
            return Integer.parseInt(row.substring(0, row.indexOf('#')));
        }

        private static boolean isBased(String row) {
            Matcher m = BASED.matcher(row);
            if (!m.matches() || base(row) < 2 || base(row) > 36) {
                return false;
            }
            for (char c : m.group(2).toCharArray()) {
                if (Character.digit(c, 36) >= base(row)) {
                    return false;
                }
            }
            return true;
        }

        private static BigInteger rounded(String row) {
            Matcher m = REAL.matcher(row);
            m.matches();
            BigDecimal size = new BigDecimal(m.group(1) != null ? m.group(1) : m.group(3));
            String power = m.group(1) != null ? m.group(2) : m.group(4);
            BigInteger exponent = power == null ? BigInteger.ZERO : new BigInteger(power.replace("+", ""));
            BigInteger bounded = exponent.max(BigInteger.valueOf(-900)).min(BigInteger.valueOf(900));
            return size.scaleByPowerOfTen(bounded.intValue()).multiply(new BigDecimal(65536)).add(new BigDecimal("0.5"))
                    .setScale(0, RoundingMode.FLOOR).toBigInteger();
        }
    }
}
