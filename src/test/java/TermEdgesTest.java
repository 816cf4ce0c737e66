/** Promises 36 to 39 and the texts of terms: each sentence that names a limit, at it, just inside and just outside. */
public final class TermEdgesTest {
    private static final String STARTS = "!(adomw ", SIGNS = "<=> ", DIGITS = "0123456789";

    public static void main(String[] args) {
        termTaken();
        feedTaken();
        feedUpToAZero();
        feedRefused();
        anyByte();
        digits();
        blanks();
        atTheLength();
        brackets();
        sixtyBytes();
        forceTaken();
        forceFromAMonthOn();
        forceWithoutAFault();
        forceOfLikeOnes();
        compares();
        greatestNumbers();
        Due.end();
    }

    private static int faultOf(String text) {
        return World.empty().term(0, 0, text).make().fault(0);
    }

    private static String told(String text) {
        return "'" + text + "'";
    }

    /** Promise 36: "in force from a MONTH (0 to 599) on, without bytes". */
    private static void termTaken() {
        for (int month : new int[] {0, 1, 598, 599}) {
            World.empty().answers("Promise 36: term(" + month + ")", 0, x -> x.term(month));
            World w = World.empty().term(0, month, "o>0");
            w.answers("Promise 39: in its month", 0, x -> x.force(month));
            if (month > 0) {
                w.answers("Promise 39: ahead of its month", Due.NONE, x -> x.force(month - 1));
            }
        }
        World.empty().answers("Promise 36: without bytes", 0, x -> x.term(5) + x.feed(0, 0L));
        World.empty().answers("Promise 36: a second", 1, x -> x.term(5) + x.term(5));
        for (int month : new int[] {Integer.MIN_VALUE, -1, 600, Integer.MAX_VALUE}) {
            World.some().refuses("Promise 36: term(" + month + ")", Due.OUTSIDE, x -> x.term(month));
        }
    }

    /** Promise 37: "from the lowest on, up to a byte 0, or all 8". */
    private static void feedTaken() {
        World w = World.empty().then(x -> x.term(0));
        for (int i = 0; i <= 8; i++) {
            int many = i;
            long bytes = Due.packed("a>1&d>22".substring(0, many), 0);
            w.answers("Promise 37: " + many + " bytes", many, x -> x.feed(0, bytes));
        }
        w.answers("Promise 37: from the lowest on", Due.NONE, x -> x.feed(0, 0x313e61L) * 0 + x.fault(0));
        w.answers("Promise 37: not from the highest", 0, x -> x.feed(0, 0x613e31L) * 0 + x.fault(0));
        w.answers("Promise 37: they come behind", Due.NONE, x -> x.feed(0, 0x3e61L) * 0 + x.feed(0, 0x31L) * 0 + x.fault(0));
        w.answers("Promise 37: every bit is set", 8, x -> x.feed(0, -1L));
        w.answers("Promise 37: the greatest long", 8, x -> x.feed(0, Long.MAX_VALUE));
        w.answers("Promise 37: the least long has byte 0 lowest", 0, x -> x.feed(0, Long.MIN_VALUE));
        w.answers("Promise 37: none", 0, x -> x.feed(0, 0L));
    }

    /** A byte 0 at each place; what is behind it does not come. */
    private static void feedUpToAZero() {
        World w = World.empty().then(x -> x.term(0));
        for (int i = 0; i < 8; i++) {
            int at = i;
            long bytes = 0x2020202020202020L & ~(255L << 8 * at);
            w.answers("Promise 37: a byte 0 at " + at, at, x -> x.feed(0, bytes));
        }
        w.answers("Promise 37: 'x' behind a byte 0", Due.NONE, x -> x.feed(0, 0x78007800313e61L) * 0 + x.fault(0));
    }

    /** Promise 37: UNKNOWN ahead of FULL. */
    private static void feedRefused() {
        World w = World.empty().term(0, 0, "o>0" + " ".repeat(57));
        for (int t : new int[] {Integer.MIN_VALUE, -1, 1, 4, Integer.MAX_VALUE}) {
            w.refuses("Promise 37: feed(" + t + ")", Due.UNKNOWN, x -> x.feed(t, ' '));
            w.refuses("Promise 37: feed(" + t + ") of none", Due.UNKNOWN, x -> x.feed(t, 0L));
            w.refuses("Promise 38: fault(" + t + ")", Due.UNKNOWN, x -> x.fault(t));
        }
        w.refuses("Promise 37: one too many", Due.FULL, x -> x.feed(0, ' '));
        w.refuses("Promise 37: eight too many", Due.FULL, x -> x.feed(0, -1L));
    }

    /** Promise 38: behind each beginning, which of all bytes a term can go on with. */
    private static void anyByte() {
        String[][] rows = {
            {"", STARTS}, {"  ", STARTS}, {"!", STARTS}, {"(", STARTS}, {"a>1&", STARTS}, {"a>1|", STARTS}, {"! ", STARTS}, {"a>1& ", STARTS},
            {"a", SIGNS}, {"d", SIGNS}, {"o", SIGNS}, {"m", SIGNS}, {"w", SIGNS}, {"a ", SIGNS}, {"!(w", SIGNS},
            {"a<", DIGITS + " "}, {"a=", DIGITS + " "}, {"a>", DIGITS + " "}, {"a> ", DIGITS + " "},
            {"a>1", DIGITS + "&| "}, {"a>1234", DIGITS + "&| "}, {"a>12345", "&| "}, {"a>00000", "&| "}, {"a>1 ", "&| "},
            {"(a>1", DIGITS + "&| )"}, {"(a>12345", "&| )"}, {"(a>1 ", "&| )"}, {"(a>1)", "&| "}, {"(a>1) ", "&| "}, {"((a>1)", "&| )"},
            {"(a>1)&d<2", DIGITS + "&| "}};
        for (String[] row : rows) {
            for (int sign = 1; sign < 256; sign++) {
                String text = row[0] + (char) sign;
                int fault = faultOf(text);
                if (row[1].indexOf(sign) < 0) {
                    Due.is("Promise 38: " + told(row[0]) + " and byte " + sign, fault, row[0].length());
                } else {
                    Due.truth("Promise 38: " + told(text) + " can go on", fault == text.length() || fault == Due.NONE);
                }
            }
        }
    }

    /** "a number of one to five digits". */
    private static void digits() {
        Due.is("Promise 38: none", faultOf("a>"), 2);
        for (int many = 1; many <= 5; many++) {
            Due.is("Promise 38: " + many + " digits", faultOf("a>" + "9".repeat(many)), Due.NONE);
            Due.is("Promise 38: " + many + " zeros", faultOf("a>" + "0".repeat(many)), Due.NONE);
        }
        Due.is("Promise 38: six digits", faultOf("a>999999"), 7);
        Due.is("Promise 38: seven digits, the first too many", faultOf("a>9999999"), 7);
        Due.is("Promise 38: six in the second", faultOf("a>99999&a>000000"), 15);
        Due.is("Promise 38: five in each", faultOf("a>99999&a>00000"), Due.NONE);
    }

    /** "Blanks may stand ahead of any sign and at the end." */
    private static void blanks() {
        String text = "!(a>1&d<22)|o=333";
        for (int at = 0; at <= text.length(); at++) {
            boolean inNumber = at > 0 && at < text.length() && Character.isDigit(text.charAt(at - 1)) && Character.isDigit(text.charAt(at));
            String with = text.substring(0, at) + "  " + text.substring(at);
            Due.is("Promise 38: " + told(with), faultOf(with), inNumber ? at + 2 : Due.NONE);
        }
        Due.is("Promise 38: blanks alone", faultOf("   "), 3);
        Due.is("Promise 38: sixty blanks alone", faultOf(" ".repeat(60)), 60);
        Due.is("Promise 38: blanks ahead, in full", faultOf(" ".repeat(57) + "a>1"), Due.NONE);
        Due.is("Promise 38: blanks at the end, in full", faultOf("a>1" + " ".repeat(57)), Due.NONE);
    }

    /** "the first byte (or their length)": each beginning of a term that is not one itself has its fault at its length. */
    private static void atTheLength() {
        String text = " ! ( a > 12345 & ( d = 0 | ! w < 2 ) ) | m > 7 & o = 9 ";
        String whole = "a>12345|m>7";
        for (int size = 0; size < text.length(); size++) {
            int fault = faultOf(text.substring(0, size));
            boolean isEnded = size > text.indexOf(") )") + 2 && !endsOpen(text.substring(0, size));
            Due.is("Promise 38: " + told(text.substring(0, size)), fault, isEnded ? Due.NONE : size);
        }
        int[] due = {0, 1, 2, Due.NONE, Due.NONE, Due.NONE, Due.NONE, Due.NONE, 8, 9, 10, Due.NONE};
        for (int size = 0; size <= whole.length(); size++) {
            Due.is("Promise 38: " + told(whole.substring(0, size)), faultOf(whole.substring(0, size)), due[size]);
        }
    }

    /** Of the text above: behind its brackets, whether something must still come. */
    private static boolean endsOpen(String text) {
        String bare = text.stripTrailing();
        char last = bare.charAt(bare.length() - 1);
        return last != ')' && !Character.isDigit(last);
    }

    /** "( ANY )": as many closed as opened, up to as many as 60 bytes hold. */
    private static void brackets() {
        for (int deep = 0; deep <= 28; deep++) {
            String open = "(".repeat(deep) + "o>0";
            Due.is("Promise 38: " + deep + " deep", faultOf(open + ")".repeat(deep)), Due.NONE);
            if (deep > 0) {
                Due.is("Promise 38: one too few", faultOf(open + ")".repeat(deep - 1)), 2 * deep + 2);
            }
            Due.is("Promise 38: one too many", faultOf(open + ")".repeat(deep + 1)), 2 * deep + 3);
        }
        Due.is("Promise 38: nothing in them", faultOf("()"), 1);
        Due.is("Promise 38: closed first", faultOf(")("), 0);
        Due.is("Promise 38: beside one another", faultOf("(o>0)(o>0)"), 5);
    }

    /** "texts (60 bytes at most)". */
    private static void sixtyBytes() {
        String all = "o>0&".repeat(14) + "o>00";
        Due.is("Promise 38: sixty bytes", faultOf(all), Due.NONE);
        Due.is("Promise 38: the sixtieth is wrong", faultOf(all.substring(0, 59) + "x"), 59);
        Due.is("Promise 38: sixty, not at its end", faultOf("o>0&".repeat(15)), 60);
        Due.is("Promise 38: fifty-nine", faultOf(all.substring(0, 59)), Due.NONE);
        World w = World.empty().then(x -> x.loan(5, 0, 1)).term(0, 0, "o>0&".repeat(14) + "m<09");
        w.answers("Promise 40: its last digit counts", 1, x -> x.may(0));
        World not = World.empty().then(x -> x.loan(5, 0, 1)).term(0, 0, "o>0&".repeat(14) + "m>00");
        not.answers("Promise 40: its last part counts", 0, x -> x.may(0));
    }

    /** Promise 39: "The TERM in force in a MONTH (0 to 599); NONE. OUTSIDE." */
    private static void forceTaken() {
        World w = World.empty().term(0, 0, "o>0");
        for (int month : new int[] {0, 1, 598, 599}) {
            w.answers("Promise 39: force(" + month + ")", 0, x -> x.force(month));
            World.empty().answers("Promise 39: no term in " + month, Due.NONE, x -> x.force(month));
        }
        for (int month : new int[] {Integer.MIN_VALUE, -1, 600, Integer.MAX_VALUE}) {
            w.refuses("Promise 39: force(" + month + ")", Due.OUTSIDE, x -> x.force(month));
        }
    }

    /** "that of the latest MONTH no later". */
    private static void forceFromAMonthOn() {
        World w = World.empty().term(0, 10, "o>0").term(1, 20, "o>0").term(2, 11, "o>0");
        int[][] rows = {{0, Due.NONE}, {9, Due.NONE}, {10, 0}, {11, 2}, {19, 2}, {20, 1}, {21, 1}, {599, 1}};
        for (int[] row : rows) {
            w.answers("Promise 39: force(" + row[0] + ")", row[1], x -> x.force(row[0]));
        }
    }

    /** ".. without a FAULT". */
    private static void forceWithoutAFault() {
        World w = World.empty().term(0, 10, "o>0").term(1, 20, "o>");
        w.answers("Promise 39: the second has a fault", 0, x -> x.force(20));
        w.answers("Promise 39: mended", 1, x -> x.feed(1, '0') * 0 + x.force(20));
        w.answers("Promise 39: not ahead of its month", 0, x -> x.feed(1, '0') * 0 + x.force(19));
        w.answers("Promise 39: the first with a fault", Due.NONE, x -> x.feed(0, '&') * 0 + x.force(19));
        w.answers("Promise 39: both with one", Due.NONE, x -> x.feed(0, '&') * 0 + x.force(599));
        w.answers("Promise 39: never to be mended", Due.NONE, x -> x.feed(0, 'x') * 0 + x.feed(0, ' ') * 0 + x.force(599));
    }

    /** ".. of like ones the last told". */
    private static void forceOfLikeOnes() {
        World w = World.empty();
        for (int i = 0; i < 4; i++) {
            int t = i;
            w.term(t, 599, "o>0");
            w.answers("Promise 39: the last told", t, x -> x.force(599));
            w.answers("Promise 39: ahead of them", Due.NONE, x -> x.force(598));
        }
        w.answers("Promise 39: the last with a fault", 2, x -> x.feed(3, 'x') * 0 + x.force(599));
        World first = World.empty().term(0, 0, "o>0").term(1, 0, "o>0");
        first.answers("Promise 39: in the first month", 1, x -> x.force(0));
    }

    /** Each letter against one less than it is, as it is, and one more. */
    private static void compares() {
        World w = World.empty().then(x -> x.pass(7)).then(x -> x.loan(1000, 10, 100)).then(x -> x.pass(3)).then(x -> x.term(0));
        Object[][] rows = {{"a", 3}, {"d", 300}, {"o", 1030}, {"m", 3}, {"w", 1}};
        for (Object[] row : rows) {
            int is = (Integer) row[1];
            for (int number = is - 1; number <= is + 1; number++) {
                String sign = row[0] + "%" + number;
                says(w, sign.replace('%', '<'), is < number);
                says(w, sign.replace('%', '='), is == number);
                says(w, sign.replace('%', '>'), is > number);
            }
        }
        World idle = World.empty().then(x -> x.loan(1000, 10, 100)).then(x -> x.work(0, false)).then(x -> x.term(0));
        says(idle, "w=0", true);
        says(idle, "w<0", false);
        says(idle, "w>0", false);
        says(idle, "a=0&d=0&m=0", true);
        says(idle, "m<1&!m>0", true);
    }

    private static void says(World w, String text, boolean due) {
        Due.is("Promise 40: " + told(text), sayingOf(w, text), due ? 1 : 0);
    }

    private static int sayingOf(World w, String text) {
        BoxcarHouses x = w.make();
        Due.feed(x, 0, text);
        return x.may(0);
    }

    /** What is owed may be above the numbers of a term, and above the ints. */
    private static void greatestNumbers() {
        int[][] rows = {{99998, 0, 0}, {99999, 0, 1}, {100000, 1, 0}};
        for (int[] row : rows) {
            World w = World.empty().then(x -> x.loan(row[0], 0, 1)).then(x -> x.term(0));
            says(w, "o>99999", row[1] == 1);
            says(w, "o=99999", row[2] == 1);
            says(w, "o<99999", row[0] < 99999);
        }
        World late = World.empty().then(x -> x.loan(100000, 50, 10000)).pass(599).then(x -> x.term(599));
        says(late, "o>99999", true);
        says(late, "o<99999", false);
        says(late, "d>99999", true);
        says(late, "a=599", true);
        says(late, "m=599", true);
    }
}
