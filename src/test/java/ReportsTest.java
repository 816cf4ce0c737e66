/** Promises 24 to 29: reports, against the document's words and against all sets of causes. */
public final class ReportsTest {
    private static final int MOST = Integer.MAX_VALUE, LEAST = Integer.MIN_VALUE;

    public static void main(String[] args) {
        report();
        sure();
        explains();
        likely();
        causes();
        firstByNumbers();
        many();
        for (int run = 0; run < 400; run++) {
            anyReports();
        }
        Due.end();
    }

    /** Promise 24. */
    private static void report() {
        BoxcarHouses x = new BoxcarHouses();
        for (int at = 0; at < 4; at++) {
            for (int v : new int[] {-1, 4, MOST, LEAST}) {
                int[] of = new int[4];
                of[at] = v;
                Due.is("report outside", x.report(of[0], of[1], of[2], of[3], true), Due.OUTSIDE);
            }
        }
        Due.is("none came", x.count(2), 0);
        Due.is("nothing is explained", x.explains(0, false), 0);
        for (int r = 0; r < 40; r++) {
            Due.is("report " + r, x.report(r & 3, r >> 2 & 3, 3 - (r & 3), r == 39 ? 3 : 0, r == 39), r);
        }
        Due.is("report 40", x.report(0, 0, 0, 0, true), Due.FULL);
        Due.is("report 40, outside", x.report(0, 0, 0, 4, true), Due.OUTSIDE);
        Due.is("count(2)", x.count(2), 40);
        Due.is("mill 0", x.explains(0, false), 10);
        Due.is("the last one's road", x.explains(15, true), 1);
        Due.is("the others' road", x.explains(12, false), 39);
        Due.is("the last one is covered", x.causes(), 1);
        Due.is("by its road", x.cause(0), 15);
    }

    /** Promise 25. */
    private static void sure() {
        BoxcarHouses x = new BoxcarHouses();
        for (int v : new int[] {-1, 101, MOST, LEAST}) {
            Due.is("sure(" + v + ")", x.sure(v), Due.OUTSIDE);
        }
        Due.is("sure(0)", x.sure(0), 50);
        Due.is("sure(100)", x.sure(100), 0);
        Due.is("sure(7)", x.sure(7), 100);
    }

    /** Promise 26. */
    private static void explains() {
        BoxcarHouses x = new BoxcarHouses();
        x.report(1, 2, 3, 0, true);
        x.report(1, 0, 2, 0, false);
        int[] all = {0, 2, 0, 0, 1, 0, 1, 0, 0, 0, 1, 1, 2, 0, 0, 0};
        int[] bad = {0, 1, 0, 0, 0, 0, 1, 0, 0, 0, 0, 1, 1, 0, 0, 0};
        for (int c = 0; c < 16; c++) {
            Due.is("explains(" + c + ", false)", x.explains(c, false), all[c]);
            Due.is("explains(" + c + ", true)", x.explains(c, true), bad[c]);
        }
        for (int c : new int[] {-1, 16, MOST, LEAST}) {
            Due.is("explains(" + c + ")", x.explains(c, true), Due.OUTSIDE);
            Due.is("explains(" + c + ")", x.explains(c, false), Due.OUTSIDE);
            Due.is("likely(" + c + ")", x.likely(c), Due.OUTSIDE);
        }
    }

    /** Promise 27. */
    private static void likely() {
        BoxcarHouses x = new BoxcarHouses();
        Due.is("nothing is told", x.likely(0), 0);
        x.sure(0);
        Due.is("none is bad", x.likely(0), 0);
        x.report(0, 0, 0, 0, false);
        Due.is("none is bad still", x.likely(0), 0);
        x.report(0, 1, 0, 0, false);
        x.report(0, 2, 0, 0, true);
        Due.is("one is", x.likely(0), 1);
        x.sure(33);
        Due.is("one of three is 33 in a hundred", x.likely(0), 1);
        x.sure(34);
        Due.is("but not 34", x.likely(0), 0);
        x.sure(100);
        Due.is("wood 2 always", x.likely(6), 1);
        Due.is("wood 1 never", x.likely(5), 0);
    }

    /** Promises 28 and 29. */
    private static void causes() {
        BoxcarHouses x = new BoxcarHouses();
        x.report(0, 0, 0, 0, false);
        Due.is("nothing is bad", x.causes(), 0);
        Due.is("so there is none", x.cause(0), Due.NONE);
        x.report(1, 1, 1, 1, true);
        Due.is("one", x.causes(), 1);
        Due.is("the first of like ones", x.cause(0), 1);
        for (int i : new int[] {-1, 1, 16, MOST, LEAST}) {
            Due.is("cause(" + i + ")", x.cause(i), Due.NONE);
        }
        x.report(1, 1, 1, 2, false);
        x.sure(51);
        Due.is("the road alone", x.cause(0), 13);
        x.report(2, 2, 2, 1, false);
        Due.is("none is likely", x.causes(), Due.NONE);
        Due.is("none", x.cause(0), Due.NONE);
        Due.is("none", x.cause(-1), Due.NONE);
        x.sure(50);
        Due.is("likely again", x.cause(0), 1);
        x.report(3, 3, 3, 3, true);
        Due.is("two", x.causes(), 2);
        Due.is("the second", x.cause(1), 3);
        Due.is("a refused report", x.report(0, 4, 0, 0, true), Due.OUTSIDE);
        Due.is("changes nothing", x.causes(), 2);
    }

    /** {1, 15} comes ahead of {2, 3}, though the latter's sum is less. */
    private static void firstByNumbers() {
        BoxcarHouses x = new BoxcarHouses();
        x.report(1, 2, 0, 0, true);
        x.report(1, 3, 1, 1, true);
        x.report(2, 2, 2, 3, true);
        x.report(3, 3, 3, 3, true);
        Due.is("two", x.causes(), 2);
        Due.is("the first", x.cause(0), 1);
        Due.is("the last", x.cause(1), 15);
    }

    /** More than four: some mills, woods, packers and roads are each likely only in part. */
    private static void many() {
        BoxcarHouses x = new BoxcarHouses();
        x.sure(100);
        int[][] bad = {{0, 3, 3, 3}, {3, 0, 3, 3}, {3, 3, 0, 3}, {3, 3, 3, 0}, {1, 3, 3, 3}, {3, 1, 3, 3}, {3, 3, 1, 3},
            {3, 3, 3, 1}, {2, 3, 3, 3}, {3, 2, 3, 3}, {3, 3, 2, 3}, {3, 3, 3, 2}};
        for (int[] b : bad) {
            x.report(b[0], b[1], b[2], b[3], true);
        }
        Due.is("mill 3 covers most, and wood 3 the rest", x.causes(), 2);
        Due.is("mill 3", x.cause(0), 3);
        Due.is("wood 3", x.cause(1), 7);
        x.report(3, 3, 3, 3, false);
        Due.is("twelve", x.causes(), 12);
        for (int i = 0; i < 12; i++) {
            Due.is("in order", x.cause(i), i / 3 * 4 + i % 3);
        }
        x.report(3, 3, 3, 3, true);
        Due.is("one without a likely cause", x.causes(), Due.NONE);
        x.sure(0);
        Due.is("all are likely", x.causes(), 2);
    }

    private static void anyReports() {
        BoxcarHouses x = new BoxcarHouses();
        int n = Due.any(0, 40);
        int sure = Due.any(0, 100);
        x.sure(sure);
        int inHundred = Due.any(5, 70);
        int[][] of = new int[n][];
        boolean[] bad = new boolean[n];
        for (int r = 0; r < n; r++) {
            of[r] = new int[] {Due.any(0, 3), Due.any(0, 3), Due.any(0, 3), Due.any(0, 3)};
            bad[r] = Due.chance(inHundred);
            x.report(of[r][0], of[r][1], of[r][2], of[r][3], bad[r]);
        }
        boolean[] likely = new boolean[16];
        for (int c = 0; c < 16; c++) {
            int all = 0;
            int worse = 0;
            for (int r = 0; r < n; r++) {
                boolean has = of[r][c / 4] == c % 4;
                all += has ? 1 : 0;
                worse += has && bad[r] ? 1 : 0;
            }
            likely[c] = worse > 0 && worse * 100 >= sure * all;
            Due.is("any explains", x.explains(c, false), all);
            Due.is("any explains bad", x.explains(c, true), worse);
            Due.is("any likely", x.likely(c), likely[c] ? 1 : 0);
        }
        int best = bestSet(of, bad, likely);
        Due.is("any causes", x.causes(), best < 0 ? Due.NONE : Integer.bitCount(best));
        int i = 0;
        for (int c = 0; c < 16 && best > 0; c++) {
            if ((best >> c & 1) != 0) {
                Due.is("any cause", x.cause(i), c);
                i++;
            }
        }
        Due.is("no more", x.cause(i), Due.NONE);
    }

    /** Of all sets the one with the fewest; of as many the one whose least differing cause is in it. */
    private static int bestSet(int[][] of, boolean[] bad, boolean[] likely) {
        int best = -1;
        for (int set = 0; set < 1 << 16; set++) {
            int less = Integer.bitCount(set) - (best < 0 ? 99 : Integer.bitCount(best));
            int differing = Integer.lowestOneBit(set ^ Math.max(best, 0));
            if (less < 0 || less == 0 && (set & differing) != 0) {
                best = covers(set, of, bad, likely) ? set : best;
            }
        }
        return best;
    }

    private static boolean covers(int set, int[][] of, boolean[] bad, boolean[] likely) {
        for (int c = 0; c < 16; c++) {
            if ((set >> c & 1) != 0 && !likely[c]) {
                return false;
            }
        }
        for (int r = 0; r < of.length; r++) {
            boolean explained = !bad[r];
            for (int k = 0; k < 4; k++) {
                explained |= (set >> 4 * k + of[r][k] & 1) != 0;
            }
            if (!explained) {
                return false;
            }
        }
        return true;
    }
}
