/** Promises 24 to 29: each sentence that names a limit, at it, just inside and just outside. */
public final class ReportEdgesTest {
    public static void main(String[] args) {
        reportTaken();
        reportRefused();
        sureTaken();
        causeNumbers();
        inAHundred();
        sureOfNone();
        sureOfAll();
        fewest();
        mostCauses();
        firstByNumbers();
        likelyOnesDoNot();
        Due.end();
    }

    /** So many reports of mill 0, of which so many are bad. */
    private static World reports(int many, int bad) {
        World w = World.empty();
        for (int i = 0; i < many; i++) {
            boolean is = i < bad;
            w.then(x -> x.report(0, 0, 0, 0, is));
        }
        return w;
    }

    /** Promise 24: "a MILL, a WOOD, a PACKER, a ROAD (0 to 3 each)"; 4 times which, and its number. */
    private static void reportTaken() {
        for (int i = 0; i < 16; i++) {
            int cause = i;
            int[] of = {1, 1, 1, 1};
            of[cause / 4] = cause % 4;
            World w = World.empty().then(x -> x.report(of[0], of[1], of[2], of[3], true));
            w.answers("Promise 24: it came", 1, x -> x.count(2));
            w.answers("Promise 26: cause " + cause + " explains it", 1, x -> x.explains(cause, true));
            w.answers("Promise 26: in its kind no other does", 0, x -> x.explains(cause / 4 * 4 + (cause + 1) % 4, false));
            w.answers("Promise 27: it is likely", 1, x -> x.likely(cause));
        }
    }

    private static void reportRefused() {
        World w = reports(3, 2);
        for (int v : new int[] {Integer.MIN_VALUE, -1, 4, Integer.MAX_VALUE}) {
            w.refuses("Promise 24: mill " + v, Due.OUTSIDE, x -> x.report(v, 0, 0, 0, true));
            w.refuses("Promise 24: wood " + v, Due.OUTSIDE, x -> x.report(0, v, 0, 0, true));
            w.refuses("Promise 24: packer " + v, Due.OUTSIDE, x -> x.report(0, 0, v, 0, true));
            w.refuses("Promise 24: road " + v, Due.OUTSIDE, x -> x.report(0, 0, 0, v, false));
        }
    }

    /** Promise 25: "SURE in a hundred (0 to 100; 50 at first)". */
    private static void sureTaken() {
        for (int v : new int[] {0, 1, 99, 100}) {
            World.empty().answers("Promise 25: what it was at first", 50, x -> x.sure(v));
            World.empty().answers("Promise 25: what it was", v, x -> x.sure(v) * 0 + x.sure(7));
        }
        for (int v : new int[] {Integer.MIN_VALUE, -1, 101, Integer.MAX_VALUE}) {
            reports(4, 2).refuses("Promise 25: sure(" + v + ")", Due.OUTSIDE, x -> x.sure(v));
        }
    }

    /** Promises 26 and 27: "one of these sixteen". */
    private static void causeNumbers() {
        World w = World.empty().then(x -> x.report(0, 3, 0, 3, true)).then(x -> x.report(3, 0, 3, 0, false));
        int[][] due = {{0, 1, 1, 1}, {1, 0, 0, 0}, {14, 0, 0, 0}, {15, 1, 1, 1}};
        for (int[] row : due) {
            w.answers("Promise 26: all", row[1], x -> x.explains(row[0], false));
            w.answers("Promise 26: bad", row[2], x -> x.explains(row[0], true));
            w.answers("Promise 27: likely", row[3], x -> x.likely(row[0]));
        }
        for (int c : new int[] {Integer.MIN_VALUE, -1, 16, Integer.MAX_VALUE}) {
            w.refuses("Promise 26: explains(" + c + ", false)", Due.OUTSIDE, x -> x.explains(c, false));
            w.refuses("Promise 26: explains(" + c + ", true)", Due.OUTSIDE, x -> x.explains(c, true));
            w.refuses("Promise 27: likely(" + c + ")", Due.OUTSIDE, x -> x.likely(c));
            w.answers("Promise 29: cause(" + c + ")", Due.NONE, x -> x.cause(c));
        }
    }

    /** "LIKELY, if of all REPORTS that have it BAD ones are SURE in a hundred at least": so many of so many, and the last SURE. */
    private static void inAHundred() {
        int[][] rows = {{2, 1, 50}, {3, 1, 33}, {3, 2, 66}, {40, 1, 2}, {40, 39, 97}, {40, 20, 50}, {7, 1, 14}, {39, 38, 97}, {1, 1, 100},
            {25, 24, 96}};
        for (int[] row : rows) {
            World w = reports(row[0], row[1]);
            int sure = row[2];
            w.answers("Promise 27: " + row[1] + " of " + row[0] + " at " + sure, 1, x -> x.sure(sure) * 0 + x.likely(0));
            w.answers("Promise 28: one", 1, x -> x.sure(sure) * 0 + x.causes());
            w.answers("Promise 27: one less", 1, x -> x.sure(sure - 1) * 0 + x.likely(0));
            if (sure < 100) {
                w.answers("Promise 27: " + row[1] + " of " + row[0] + " at " + (sure + 1), 0, x -> x.sure(sure + 1) * 0 + x.likely(0));
                w.answers("Promise 28: none", Due.NONE, x -> x.sure(sure + 1) * 0 + x.causes());
                w.answers("Promise 29: none", Due.NONE, x -> x.sure(sure + 1) * 0 + x.cause(0));
            }
        }
        reports(2, 1).answers("Promise 27: half, at first", 1, x -> x.likely(0));
        reports(39, 19).answers("Promise 27: less than half, at first", 0, x -> x.likely(0));
    }

    /** ".. and one is": SURE may be 0. */
    private static void sureOfNone() {
        reports(40, 0).answers("Promise 27: none is bad", 0, x -> x.sure(0) * 0 + x.likely(0));
        reports(40, 1).answers("Promise 27: one is", 1, x -> x.sure(0) * 0 + x.likely(0));
        reports(40, 1).answers("Promise 27: not of another", 0, x -> x.sure(0) * 0 + x.likely(1));
        reports(40, 1).answers("Promise 28: one covers it", 1, x -> x.sure(0) * 0 + x.causes());
    }

    private static void sureOfAll() {
        reports(40, 40).answers("Promise 27: all are bad", 1, x -> x.sure(100) * 0 + x.likely(0));
        reports(40, 39).answers("Promise 27: all but one", 0, x -> x.sure(100) * 0 + x.likely(0));
        reports(40, 39).answers("Promise 28: so nothing covers them", Due.NONE, x -> x.sure(100) * 0 + x.causes());
    }

    /** Promises 28 and 29: none, one, and the numbers below and above. */
    private static void fewest() {
        World one = reports(1, 1);
        one.answers("Promise 28: one", 1, BoxcarHouses::causes);
        one.answers("Promise 29: below the first", Due.NONE, x -> x.cause(-1));
        one.answers("Promise 29: the first", 0, x -> x.cause(0));
        one.answers("Promise 29: above the last", Due.NONE, x -> x.cause(1));
        World two = reports(1, 1).then(x -> x.report(1, 1, 1, 1, true));
        two.answers("Promise 28: two", 2, BoxcarHouses::causes);
        two.answers("Promise 29: the last", 1, x -> x.cause(1));
        two.answers("Promise 29: above the last", Due.NONE, x -> x.cause(2));
        World good = reports(1, 1).then(x -> x.report(1, 1, 1, 1, false));
        good.answers("Promise 28: good ones need no cause", 1, BoxcarHouses::causes);
    }

    /** Twelve: were all four of one kind likely, those four would do. */
    private static void mostCauses() {
        World w = World.empty().then(x -> x.sure(100)).then(x -> x.report(3, 3, 3, 3, false));
        for (int i = 0; i < 12; i++) {
            int[] of = {3, 3, 3, 3};
            of[i / 3] = i % 3;
            w.then(x -> x.report(of[0], of[1], of[2], of[3], true));
        }
        w.answers("Promise 28: twelve", 12, BoxcarHouses::causes);
        w.answers("Promise 29: the first", 0, x -> x.cause(0));
        w.answers("Promise 29: the last", 14, x -> x.cause(11));
        w.answers("Promise 29: above the last", Due.NONE, x -> x.cause(12));
    }

    /** "of as many the first by numbers". */
    private static void firstByNumbers() {
        reports(1, 1).answers("Promise 29: of four the first", 0, x -> x.cause(0));
        World last = World.empty().then(x -> x.sure(100)).then(x -> x.report(0, 0, 0, 3, true)).then(x -> x.report(0, 0, 0, 0, false));
        last.answers("Promise 29: the last by numbers, alone", 15, x -> x.cause(0));
        World pairs = World.empty().then(x -> x.report(0, 1, 0, 0, true)).then(x -> x.report(1, 2, 0, 1, true));
        pairs.answers("Promise 28: the packer", 1, BoxcarHouses::causes);
        pairs.answers("Promise 29: one that covers both goes ahead of two", 8, x -> x.cause(0));
    }

    /** "NONE: LIKELY ones do not": one bad report is enough for it. */
    private static void likelyOnesDoNot() {
        World w = World.empty().then(x -> x.sure(51)).then(x -> x.report(1, 1, 1, 1, true)).then(x -> x.report(0, 0, 0, 0, true));
        w.answers("Promise 28: both", 2, BoxcarHouses::causes);
        w.then(x -> x.report(0, 0, 0, 0, false));
        w.answers("Promise 28: of the other none is likely", Due.NONE, BoxcarHouses::causes);
        w.answers("Promise 29: then there is no first", Due.NONE, x -> x.cause(0));
        w.answers("Promise 27: though one is likely", 1, x -> x.likely(1));
        w.answers("Promise 28: at half it is", 2, x -> x.sure(50) * 0 + x.causes());
    }
}
