/** Promises 36 to 39, and what terms say: against the document's words and against a reader that goes down the grammar. */
public final class TermsTest {
    private static final int MOST = Integer.MAX_VALUE, LEAST = Integer.MIN_VALUE;

    public static void main(String[] args) {
        term();
        feed();
        fault();
        whole();
        force();
        says();
        deep();
        for (int run = 0; run < 8000; run++) {
            anyText();
        }
        Due.end();
    }

    private static int faultOf(String text) {
        BoxcarHouses x = new BoxcarHouses();
        x.term(0);
        Due.feed(x, 0, text);
        return x.fault(0);
    }

    /** Promise 36. */
    private static void term() {
        BoxcarHouses x = new BoxcarHouses();
        for (int month : new int[] {-1, 600, MOST, LEAST}) {
            Due.is("term(" + month + ")", x.term(month), Due.OUTSIDE);
        }
        Due.is("none came", x.count(5), 0);
        Due.is("term(599)", x.term(599), 0);
        Due.is("term(0)", x.term(0), 1);
        Due.is("without bytes", x.feed(1, 0L), 0);
        Due.is("term(599)", x.term(599), 2);
        Due.is("term(7)", x.term(7), 3);
        Due.is("term 4", x.term(0), Due.FULL);
        Due.is("term 4, outside", x.term(600), Due.OUTSIDE);
        Due.is("count(5)", x.count(5), 4);
    }

    /** Promise 37. */
    private static void feed() {
        BoxcarHouses x = new BoxcarHouses();
        Due.is("no term", x.feed(0, 0L), Due.UNKNOWN);
        x.term(0);
        for (int t : new int[] {-1, 1, 4, MOST, LEAST}) {
            Due.is("feed(" + t + ")", x.feed(t, 97L), Due.UNKNOWN);
        }
        Due.is("nothing", x.feed(0, 0L), 0);
        Due.is("nothing ahead of a 0", x.feed(0, 0x6161616161616100L), 0);
        Due.is("one", x.feed(0, 0x6100_3e61L), 2);
        Due.is("up to a byte 0", x.fault(0), 2);
        Due.is("a digit", x.feed(0, 0x31L), 3);
        Due.is("a whole one", x.fault(0), Due.NONE);
        Due.is("eight blanks", x.feed(0, 0x2020202020202020L), 11);
        for (int i = 2; i <= 7; i++) {
            Due.is("eight blanks more", x.feed(0, 0x2020202020202020L), 3 + 8 * i);
        }
        Due.is("they do not all fit", x.feed(0, 0x2020202020202020L), Due.FULL);
        Due.is("they do not all fit", x.feed(0, 0x2020L), Due.FULL);
        Due.is("none came", x.feed(0, 0L), 59);
        Due.is("whole still", x.fault(0), Due.NONE);
        Due.is("one fits", x.feed(0, 0x20L), 60);
        Due.is("no byte fits", x.feed(0, 0x20L), Due.FULL);
        Due.is("nothing always fits", x.feed(0, 0L), 60);
        Due.is("nor does a 0 take room", x.feed(0, 0x2000L), 60);
        Due.is("whole at 60", x.fault(0), Due.NONE);
        x.term(3);
        Due.is("the highest byte", x.feed(1, 0xff20202020202020L), 8);
        Due.is("is no sign", x.fault(1), 7);
        Due.is("the texts are apart", x.fault(0), Due.NONE);
        x.term(3);
        Due.is("bytes 1 and 128 are bytes too", x.feed(2, 0x018001L), 3);
    }

    /** Promise 38. */
    private static void fault() {
        BoxcarHouses x = new BoxcarHouses();
        Due.is("no term", x.fault(0), Due.UNKNOWN);
        x.term(5);
        Due.is("without bytes", x.fault(0), 0);
        Due.is("fault(-1)", x.fault(-1), Due.UNKNOWN);
        Due.is("fault(1)", x.fault(1), Due.UNKNOWN);
        Due.is("fault(MOST)", x.fault(MOST), Due.UNKNOWN);
        String[] texts = {" ", "a", "a>", "a> ", "a>1&", "a>1 | ", "!", "(", "(a>1", "((a>1)", "!(", "(a>1 &", "a>1|!"};
        for (String text : texts) {
            Due.is("'" + text + "' is not at its end", faultOf(text), text.length());
        }
        Due.is("b>1", faultOf("b>1"), 0);
        Due.is("A>1", faultOf("A>1"), 0);
        Due.is("1>a", faultOf("1>a"), 0);
        Due.is(">1", faultOf(">1"), 0);
        Due.is(")", faultOf(")"), 0);
        Due.is("&", faultOf("&"), 0);
        Due.is("blank, then wrong", faultOf("  x"), 2);
        Due.is("a1", faultOf("a1"), 1);
        Due.is("a !", faultOf("a !"), 2);
        Due.is("a>>1", faultOf("a>>1"), 2);
        Due.is("a>=1", faultOf("a>=1"), 2);
        Due.is("a>b", faultOf("a>b"), 2);
        Due.is("a>-1", faultOf("a>-1"), 2);
        Due.is("a>1)", faultOf("a>1)"), 3);
        Due.is("(a>1))", faultOf("(a>1))"), 5);
        Due.is("a>1 2", faultOf("a>1 2"), 4);
        Due.is("a>1a", faultOf("a>1a"), 3);
        Due.is("a>1!", faultOf("a>1!"), 3);
        Due.is("a>1(", faultOf("a>1("), 3);
        Due.is("(a>1)2", faultOf("(a>1)2"), 5);
        Due.is("(a>1)a", faultOf("(a>1)a"), 5);
        Due.is("a>123456", faultOf("a>123456"), 7);
        Due.is("a>000001", faultOf("a>000001"), 7);
        Due.is("a>1&&", faultOf("a>1&&a>1"), 4);
        Due.is("()", faultOf("()"), 1);
        Due.is("a tab is no blank", faultOf("a>1\t"), 3);
        Due.is("the first of two", faultOf("a>x&y"), 2);
        Due.is("a/1", faultOf("a/1"), 1);
        Due.is("a>:", faultOf("a>:"), 2);
        Due.is("a>/", faultOf("a>/"), 2);
        Due.is("a byte above 127", faultOf("a>1" + (char) 0xb1), 3);
    }

    private static void whole() {
        String[] texts = {"a>1", "d<0", "o=99999", "m=00000", "w=1", " a > 1 ", "!a>1", "! ! a>1", "(a>1)", " ( ( a>1 ) ) ",
            "a>1&d>1|o>1", "!(a>1|d<2)&w=0", "a>12345&a<1", "a>1 &(d=2)"};
        for (String text : texts) {
            Due.is("'" + text + "' is whole", faultOf(text), Due.NONE);
        }
    }

    /** Promise 39. */
    private static void force() {
        BoxcarHouses x = new BoxcarHouses();
        for (int month : new int[] {-1, 600, MOST, LEAST}) {
            Due.is("force(" + month + ")", x.force(month), Due.OUTSIDE);
        }
        Due.is("none", x.force(0), Due.NONE);
        x.term(10);
        Due.is("without bytes", x.force(20), Due.NONE);
        Due.feed(x, 0, "a>1");
        Due.is("ahead of it", x.force(9), Due.NONE);
        Due.is("from it on", x.force(10), 0);
        Due.is("to the last", x.force(599), 0);
        x.term(20);
        Due.feed(x, 1, "a>1");
        Due.is("ahead of the second", x.force(19), 0);
        Due.is("the latest", x.force(20), 1);
        x.term(5);
        Due.feed(x, 2, "a>1");
        Due.is("told later but earlier", x.force(20), 1);
        Due.is("its own months", x.force(9), 2);
        Due.is("the first month", x.force(4), Due.NONE);
        x.term(20);
        Due.is("a fault", x.force(25), 1);
        Due.feed(x, 3, "a>1");
        Due.is("of like ones the last", x.force(25), 3);
        Due.feed(x, 3, "&");
        Due.is("a fault again", x.force(25), 1);
        Due.feed(x, 3, "d>1");
        Due.is("mended", x.force(25), 3);
        Due.is("the month does not count", x.count(6), 0);
        BoxcarHouses y = new BoxcarHouses();
        y.term(0);
        y.term(599);
        Due.feed(y, 0, "a>1");
        Due.feed(y, 1, "a>1");
        Due.is("the first month", y.force(0), 0);
        Due.is("the one ahead of the last", y.force(598), 0);
        Due.is("the last month", y.force(599), 1);
    }

    /** A loan of 1000 at 10, with 100 a month, after three months: a 3, d 300, o 1030, m 3, w 1. */
    private static int said(String text) {
        BoxcarHouses x = new BoxcarHouses();
        x.term(0);
        Due.feed(x, 0, text);
        x.loan(1000, 10, 100);
        x.pass(3);
        return x.may(0);
    }

    private static void says() {
        Object[][] rows = {
            {"a<3", 0}, {"a<4", 1}, {"a=3", 1}, {"a=2", 0}, {"a>2", 1}, {"a>3", 0},
            {"d=300", 1}, {"d<300", 0}, {"o=1030", 1}, {"o>01029", 1}, {"o=103", 0}, {"m=3", 1}, {"m>3", 0}, {"w=1", 1}, {"w=0", 0},
            {"a=3&d=1", 0}, {"a=3&d=300", 1}, {"a=1|d=300", 1}, {"a=1|d=1", 0},
            {"a=3|a=3&a=1", 1}, {"a=1&a=3|a=3", 1}, {"a=1&(a=3|a=3)", 0}, {"(a=3|a=3)&a=1", 0}, {"a=3|(a=3&a=1)", 1},
            {"!a=3", 0}, {"!a=1", 1}, {"!!a=3", 1}, {"!!!a=3", 0}, {"!a=1&a=3", 1}, {"!a=3|a=3", 1}, {"!(a=3|a=3)", 0},
            {"!(a=1|!a=3)", 1}, {"!(!(!a=1))", 1}, {"a=3&!a=1", 1}, {"a=3&!a=3", 0}, {"a=3&!(a=1)", 1}, {"!(a=1)&!(a=3)", 0},
            {" a = 3 & ! ( d = 1 | d = 2 ) ", 1}, {"(a=1)|(a=1)|(a=3)", 1}, {"a=3&a=3&a=1|a=1&a=3", 0}, {"(a=1|a=3)&(a=3|a=1)", 1},
            {"((a=1)|!((a=1)))", 1}, {"!(a=3)|(a=1)", 0}, {"w>0", 1}, {"w<1", 0},
            {"(a=3|a=1)&(a=1|a=1)", 0}, {"(a=3|a=1)&(a=1)", 0}, {"(a=1|a=1)|(a=3)", 1}, {"((a=3|a=1))&((a=1)|a=1)", 0}};
        for (Object[] row : rows) {
            Due.is("'" + row[0] + "'", said((String) row[0]), (Integer) row[1]);
        }
    }

    /** The most brackets that 60 bytes have room for. */
    private static void deep() {
        String open = "(".repeat(28);
        String close = ")".repeat(28);
        Due.is("28 deep", said(open + "a=3" + close), 1);
        Due.is("28 deep, turned", said("!" + open + "a=3" + close), 0);
        Due.is("57 turns", said("!".repeat(57) + "a=3"), 0);
        Due.is("56 turns", said("!".repeat(56) + "a=3"), 1);
        Due.is("60 brackets", faultOf("(".repeat(60)), 60);
        Due.is("turns and brackets", said("!(".repeat(18) + "a=3" + ")".repeat(18)), 1);
        Due.is("turns and brackets", said("!(".repeat(17) + "a=3" + ")".repeat(17)), 0);
        Due.is("many", said("a=1|".repeat(14) + "a=3"), 1);
        Due.is("many", said("a=3&".repeat(14) + "a=1"), 0);
    }

    private static String text;
    private static int at;

    private static void anyText() {
        StringBuilder made = new StringBuilder();
        make(made, Due.any(0, 5));
        if (Due.chance(40)) {
            String signs = "adomw<=>&|!() 019xb";
            for (int i = Due.any(1, 2); i > 0 && made.length() > 0; i--) {
                made.setCharAt(Due.any(0, made.length() - 1), signs.charAt(Due.any(0, signs.length() - 1)));
            }
        }
        if (Due.chance(20)) {
            made.setLength(Due.any(0, made.length()));
        }
        made.setLength(Math.min(60, made.length()));
        text = made.toString();
        at = 0;
        boolean value = any() && text.length() > 0;
        boolean isWhole = at >= 0 && skip() == text.length();
        Due.is("any fault of '" + text + "'", faultOf(text), isWhole ? Due.NONE : at >= 0 ? at : -1 - at);
        Due.is("any word of '" + text + "'", said(text), isWhole && value ? 1 : 0);
    }

    private static void make(StringBuilder made, int depth) {
        int kind = depth == 0 ? 3 : Due.any(0, 3);
        blanks(made);
        if (kind == 0) {
            make(made.append('!'), depth - 1);
        } else if (kind == 1) {
            make(made.append('('), depth - 1);
            blanks(made);
            made.append(')');
        } else if (kind == 2) {
            make(made, depth - 1);
            blanks(made);
            make(made.append(Due.chance(50) ? '&' : '|'), depth - 1);
        } else {
            made.append("adomw".charAt(Due.any(0, 4)));
            blanks(made);
            made.append("<=>".charAt(Due.any(0, 2)));
            blanks(made);
            int[] numbers = {0, 1, 2, 3, 4, 299, 300, 301, 1030, 12345, 100000};
            made.append(numbers[Due.any(0, 10)]);
        }
        blanks(made);
    }

    private static void blanks(StringBuilder made) {
        if (Due.chance(8)) {
            made.append("  ", 0, Due.any(1, 2));
        }
    }

    // The reader: at is where it is, or -1 less that if it can't go on.

    private static boolean any() {
        boolean value = all();
        while (eat('|')) {
            value |= all();
        }
        return value;
    }

    private static boolean all() {
        boolean value = one();
        while (eat('&')) {
            value &= one();
        }
        return value;
    }

    private static boolean one() {
        if (eat('!')) {
            return !one();
        }
        if (eat('(')) {
            boolean value = any();
            need(")");
            return value;
        }
        int letter = need("adomw");
        int sign = need("<=>");
        int first = need("0123456789");
        if (at < 0) {
            return false;
        }
        int number = first - '0';
        for (int i = 0; i < 4 && at < text.length() && Character.isDigit(text.charAt(at)); i++) {
            number = number * 10 + text.charAt(at) - '0';
            at++;
        }
        int value = letter == 'a' || letter == 'm' ? 3 : letter == 'd' ? 300 : letter == 'o' ? 1030 : 1;
        return sign == '<' ? value < number : sign == '>' ? value > number : value == number;
    }

    private static int skip() {
        while (at >= 0 && at < text.length() && text.charAt(at) == ' ') {
            at++;
        }
        return at;
    }

    private static boolean eat(char sign) {
        boolean is = at >= 0 && skip() < text.length() && text.charAt(at) == sign;
        at += is ? 1 : 0;
        return is;
    }

    private static int need(String signs) {
        if (at < 0) {
            return 0;
        }
        if (skip() >= text.length() || signs.indexOf(text.charAt(at)) < 0) {
            at = -1 - at;
            return 0;
        }
        return text.charAt(at++);
    }
}
