/** Promises 1 to 12: plans, against the document's words and against a second, plain reckoning. */
public final class PlansTest {
    private static final int MOST = Integer.MAX_VALUE, LEAST = Integer.MIN_VALUE;

    public static void main(String[] args) {
        newObject();
        width();
        piece();
        about();
        meet();
        apart();
        mirror();
        stretch();
        stretchLimits();
        why();
        whyOrder();
        lean();
        order();
        below();
        for (int run = 0; run < 400; run++) {
            anyPlan();
            anyLeaning();
        }
        Due.end();
    }

    /** Promise 1. */
    private static void newObject() {
        BoxcarHouses x = new BoxcarHouses();
        for (int what = 0; what <= 6; what++) {
            Due.is("new: count(" + what + ")", x.count(what), 0);
        }
        Due.is("new: count(7)", x.count(7), 100);
        Due.is("new: apart()", x.apart(), Due.NONE);
        Due.is("new: mirror()", x.mirror(), 0);
        Due.is("new: order(0)", x.order(0), Due.NONE);
        Due.is("new: price()", x.price(), 0);
        Due.is("new: boards()", x.boards(), 0);
        Due.is("new: ofBoard(0, 0)", x.ofBoard(0, 0), Due.UNKNOWN);
        Due.is("new: packing()", x.packing(), 0);
        Due.is("new: turned(0)", x.turned(0), 0);
        Due.is("new: causes()", x.causes(), 0);
        Due.is("new: force(599)", x.force(599), Due.NONE);
        for (int s = 0; s < 4; s++) {
            Due.is("new: sort", x.sort(s, 1, 1), 0);
        }
        Due.is("new: saw", x.saw(2), 1);
        Due.is("new: car 0", x.car(0, 5), 600);
        Due.is("new: car 1", x.car(1, 5), 600);
        Due.is("new: sure", x.sure(5), 50);
        Due.is("new: stretch an empty plan", x.stretch(0, 1), 0);
        Due.is("new: it is wider", x.count(7), 101);
    }

    /** Promise 2. */
    private static void width() {
        BoxcarHouses x = new BoxcarHouses();
        for (int v : new int[] {0, 401, -1, MOST, LEAST}) {
            Due.is("width(" + v + ")", x.width(v), Due.OUTSIDE);
        }
        Due.is("width(1)", x.width(1), 100);
        Due.is("width(400)", x.width(400), 1);
        Due.is("count(7)", x.count(7), 400);
        Due.is("width(77)", x.width(77), 400);
    }

    /** Promise 3. */
    private static void piece() {
        BoxcarHouses x = new BoxcarHouses();
        int[][] bad = {{-1, 1, 0}, {401, 1, 0}, {0, 0, 0}, {0, 201, 0}, {0, 1, -1}, {0, 1, 10}, {MOST, 1, 0}, {0, LEAST, 0}, {0, 1, MOST}};
        for (int[] b : bad) {
            Due.is("piece that is outside", x.piece(b[0], b[1], b[2], false), Due.OUTSIDE);
        }
        Due.is("none came", x.count(0), 0);
        Due.is("piece(0, 1, 0)", x.piece(0, 1, 0, true), 0);
        Due.is("piece(400, 200, 9)", x.piece(400, 200, 9, false), 1);
        for (int p = 2; p < 12; p++) {
            Due.is("piece " + p, x.piece(p, p, p - 2, p % 2 == 0), p);
        }
        Due.is("piece 12", x.piece(0, 1, 0, false), Due.FULL);
        Due.is("piece 12, outside", x.piece(0, 0, 0, false), Due.OUTSIDE);
        Due.is("count(0)", x.count(0), 12);
        Due.is("about(1, 0)", x.about(1, 0), 400);
        Due.is("about(1, 1)", x.about(1, 1), 200);
        Due.is("about(1, 2)", x.about(1, 2), 9);
        Due.is("about(1, 3)", x.about(1, 3), 0);
        Due.is("about(11, 2)", x.about(11, 2), 9);
    }

    /** Promise 4. */
    private static void about() {
        BoxcarHouses x = new BoxcarHouses();
        Due.is("about(0, 9) of none", x.about(0, 9), Due.UNKNOWN);
        x.piece(7, 8, 9, true);
        int[] due = {7, 8, 9, 1};
        for (int what = 0; what < 4; what++) {
            Due.is("about(0, " + what + ")", x.about(0, what), due[what]);
        }
        for (int what : new int[] {-1, 4, MOST, LEAST}) {
            Due.is("about(0, " + what + ")", x.about(0, what), Due.OUTSIDE);
        }
        for (int piece : new int[] {-1, 1, 12, MOST, LEAST}) {
            Due.is("about(" + piece + ", 0)", x.about(piece, 0), Due.UNKNOWN);
            Due.is("about(" + piece + ", 4)", x.about(piece, 4), Due.UNKNOWN);
        }
    }

    /** Promise 5. */
    private static void meet() {
        BoxcarHouses x = new BoxcarHouses();
        x.piece(0, 10, 0, false);
        x.piece(10, 10, 0, false);
        Due.is("meet(0, 2, 2, 2)", x.meet(0, 2, 2, 2), Due.UNKNOWN);
        Due.is("meet(-1, 0, 0, 0)", x.meet(-1, 0, 0, 0), Due.UNKNOWN);
        Due.is("meet(0, 0, 2, 0)", x.meet(0, 0, 2, 0), Due.UNKNOWN);
        Due.is("meet(2, 0, 2, 0)", x.meet(2, 0, 2, 0), Due.UNKNOWN);
        Due.is("meet(0, 2, 0, 0)", x.meet(0, 2, 0, 0), Due.OUTSIDE);
        Due.is("meet(0, -1, 1, 0)", x.meet(0, -1, 1, 0), Due.OUTSIDE);
        Due.is("meet(0, 0, 1, 2)", x.meet(0, 0, 1, 2), Due.OUTSIDE);
        Due.is("meet(0, 0, 1, -1)", x.meet(0, 0, 1, -1), Due.OUTSIDE);
        Due.is("meet(1, 0, 1, 1)", x.meet(1, 0, 1, 1), Due.STATE);
        Due.is("none came", x.count(1), 0);
        for (int m = 0; m < 20; m++) {
            Due.is("meet " + m, x.meet(0, 1, 1, 0), m);
        }
        Due.is("meet 20", x.meet(0, 1, 1, 0), Due.FULL);
        Due.is("meet 20, one", x.meet(0, 1, 0, 0), Due.STATE);
        Due.is("meet 20, ends", x.meet(0, 1, 0, 7), Due.OUTSIDE);
        Due.is("count(1)", x.count(1), 20);
        Due.is("all hold", x.apart(), Due.NONE);
    }

    /** Promise 6. */
    private static void apart() {
        BoxcarHouses x = new BoxcarHouses();
        x.piece(0, 10, 0, false);
        x.piece(0, 20, 3, false);
        x.piece(10, 10, 0, false);
        x.meet(0, 0, 1, 0);
        Due.is("left and left", x.apart(), Due.NONE);
        x.meet(1, 1, 2, 1);
        Due.is("right and right", x.apart(), Due.NONE);
        x.meet(2, 0, 0, 1);
        Due.is("left and right", x.apart(), Due.NONE);
        x.meet(0, 0, 2, 0);
        Due.is("apart()", x.apart(), 3);
        x.meet(0, 1, 1, 1);
        Due.is("the first", x.apart(), 3);
    }

    /** Promise 7. */
    private static void mirror() {
        BoxcarHouses x = new BoxcarHouses();
        x.piece(0, 30, 0, true);
        x.piece(35, 30, 0, false);
        x.meet(0, 1, 1, 0);
        x.meet(0, 0, 1, 1);
        Due.is("the middle one stays", x.mirror(), 1);
        Due.is("about(0, 0)", x.about(0, 0), 70);
        Due.is("about(1, 0)", x.about(1, 0), 35);
        x.width(99);
        Due.is("below 0", x.mirror(), Due.STATE);
        Due.is("nothing moved", x.about(1, 0), 35);
        x.width(100);
        Due.is("back", x.mirror(), 1);
        Due.is("about(0, 0)", x.about(0, 0), 0);
        x.piece(30, 71, 0, false);
        Due.is("the last one is too far", x.mirror(), Due.STATE);
        Due.is("the first one stays", x.about(0, 0), 0);
        x.width(101);
        Due.is("to 0 just so", x.mirror(), 3);
        Due.is("about(2, 0)", x.about(2, 0), 0);
        mirrorTurnsEnds();
    }

    private static void mirrorTurnsEnds() {
        BoxcarHouses x = new BoxcarHouses();
        x.piece(0, 30, 0, false);
        x.piece(30, 20, 0, false);
        x.meet(0, 1, 1, 0);
        x.mirror();
        Due.is("ends that met still meet", x.apart(), Due.NONE);
        Due.is("and hinder a stretch there", x.why(70, 5), 200);
        Due.is("but not where both are left ends", x.why(71, 5), 0);
    }

    /** Promise 8. */
    private static void stretch() {
        BoxcarHouses x = new BoxcarHouses();
        x.piece(10, 20, 0, false);
        x.piece(30, 20, 0, true);
        x.piece(0, 31, 0, false);
        for (int[] b : new int[][] {{-1, 1}, {401, 1}, {0, 0}, {0, 101}, {0, -1}, {MOST, MOST}, {LEAST, LEAST}}) {
            Due.is("stretch", x.stretch(b[0], b[1]), Due.OUTSIDE);
            Due.is("why", x.why(b[0], b[1]), Due.OUTSIDE);
        }
        Due.is("at the end of one and the start of another", x.stretch(30, 7), 1);
        Due.is("the first stays", x.about(0, 0) * 1000 + x.about(0, 1), 10020);
        Due.is("the second moves", x.about(1, 0) * 1000 + x.about(1, 1), 37020);
        Due.is("the third is longer", x.about(2, 0) * 1000 + x.about(2, 1), 38);
        Due.is("the width grows", x.count(7), 107);
        Due.is("across a fixed one", x.stretch(38, 1), Due.STATE);
        Due.is("ahead of all", x.stretch(0, 1), 0);
        Due.is("all move", x.about(0, 0) * 1000000 + x.about(1, 0) * 1000 + x.about(2, 0), 11038001);
        Due.is("at the width", x.stretch(108, 100), 0);
        Due.is("it grows", x.count(7), 208);
        Due.is("behind the width", x.stretch(209, 100), 0);
        Due.is("it stays", x.count(7), 208);
        Due.is("nothing is there", x.about(1, 0) + x.about(1, 1), 58);
        Due.is("the lengths count for boards", x.sort(0, 38, 5), 0);
        Due.is("all fit", x.boards(), 3);
        Due.is("longer", x.stretch(12, 1), 2);
        Due.is("they do not fit", x.boards(), Due.NONE);
    }

    private static void stretchLimits() {
        BoxcarHouses x = new BoxcarHouses();
        x.piece(0, 150, 0, false);
        Due.is("to 200", x.why(50, 50), 0);
        Due.is("above 200", x.why(50, 51), 300);
        Due.is("stretch above 200", x.stretch(50, 51), Due.STATE);
        Due.is("the length stays", x.about(0, 1), 150);
        Due.is("the width stays", x.count(7), 100);
        x.piece(350, 10, 0, true);
        Due.is("to 400", x.why(350, 50), 0);
        Due.is("above 400", x.why(350, 51), 300);
        Due.is("above 400, stretched", x.stretch(350, 51), Due.STATE);
        Due.is("to 400, stretched", x.stretch(350, 50), 0);
        Due.is("it is there", x.about(1, 0), 400);
        BoxcarHouses y = new BoxcarHouses();
        y.width(350);
        Due.is("width to 400", y.why(350, 50), 0);
        Due.is("width above 400", y.why(350, 51), 300);
        Due.is("behind the width", y.why(351, 100), 0);
        Due.is("width above 400, stretched", y.stretch(0, 51), Due.STATE);
        Due.is("width as it was", y.count(7), 350);
        Due.is("line and by at their most", y.stretch(400, 100), 0);
        Due.is("width to 400, stretched", y.stretch(349, 50), 0);
        Due.is("width is 400", y.count(7), 400);
    }

    /** Promise 9. */
    private static void why() {
        BoxcarHouses x = new BoxcarHouses();
        x.piece(0, 40, 0, false);
        x.piece(10, 40, 0, true);
        x.piece(20, 40, 0, true);
        Due.is("across none that is fixed", x.why(5, 1), 0);
        Due.is("a left end at the line is not across", x.why(10, 1), 0);
        Due.is("across the first", x.why(11, 1), 101);
        Due.is("across both", x.why(21, 1), 101);
        Due.is("a right end at the line is not across", x.why(50, 1), 102);
        Due.is("across none", x.why(60, 1), 0);
        x.meet(0, 1, 1, 0);
        x.meet(0, 1, 2, 1);
        Due.is("what did not hold does not hinder", x.why(10, 1), 0);
        Due.is("why changes nothing", x.about(0, 1) + x.about(1, 0) + x.count(7), 150);
        x.piece(40, 5, 0, false);
        x.meet(0, 1, 3, 0);
        Due.is("fixed goes first", x.why(40, 1), 101);
        Due.is("it is refused", x.stretch(40, 1), Due.STATE);
    }

    private static void whyOrder() {
        BoxcarHouses x = new BoxcarHouses();
        x.piece(0, 40, 0, false);
        x.piece(40, 40, 0, false);
        x.piece(30, 190, 0, false);
        x.piece(41, 1, 0, false);
        x.meet(1, 0, 3, 0);
        x.meet(1, 0, 0, 1);
        x.meet(0, 1, 1, 0);
        Due.is("a meeting goes ahead of a length", x.why(40, 50), 201);
        Due.is("a length alone", x.why(35, 50), 300);
        Due.is("nothing", x.why(35, 10), 0);
        Due.is("a meeting of two right ends", x.meet(0, 1, 1, 0), 3);
        Due.is("a refused stretch", x.stretch(40, 5), Due.STATE);
        Due.is("changes nothing", x.about(1, 0) * 1000 + x.about(2, 1), 40190);
        Due.is("nor the width", x.count(7), 100);
    }

    /** Promise 10. */
    private static void lean() {
        BoxcarHouses x = new BoxcarHouses();
        for (int p = 0; p < 4; p++) {
            x.piece(0, 10, 0, false);
        }
        Due.is("lean(4, 4)", x.lean(4, 4, true), Due.UNKNOWN);
        Due.is("lean(0, 4)", x.lean(0, 4, true), Due.UNKNOWN);
        Due.is("lean(-1, 0)", x.lean(-1, 0, false), Due.UNKNOWN);
        Due.is("lean(0, MOST)", x.lean(0, MOST, false), Due.UNKNOWN);
        Due.is("lean(2, 2)", x.lean(2, 2, true), Due.STATE);
        Due.is("not on itself, as ever", x.lean(2, 2, false), 0);
        Due.is("lean(0, 1)", x.lean(0, 1, true), 0);
        Due.is("again", x.lean(0, 1, true), 1);
        Due.is("lean(1, 0)", x.lean(1, 0, true), Due.STATE);
        Due.is("not: as it was", x.lean(1, 0, false), 0);
        x.lean(1, 2, true);
        x.lean(2, 3, true);
        Due.is("round about", x.lean(3, 0, true), Due.STATE);
        Due.is("nothing came", x.below(3), 0);
        Due.is("lean(1, 2) not", x.lean(1, 2, false), 1);
        Due.is("then it may", x.lean(3, 0, true), 0);
        Due.is("and the other may not", x.lean(1, 2, true), Due.STATE);
    }

    /** Promise 11. */
    private static void order() {
        BoxcarHouses x = new BoxcarHouses();
        for (int p = 0; p < 12; p++) {
            x.piece(0, 10, 0, false);
        }
        for (int i = 0; i < 12; i++) {
            Due.is("plain order", x.order(i), i);
        }
        for (int i : new int[] {-1, 12, MOST, LEAST}) {
            Due.is("order(" + i + ")", x.order(i), Due.NONE);
        }
        for (int p = 0; p < 11; p++) {
            x.lean(p, p + 1, true);
        }
        for (int i = 0; i < 12; i++) {
            Due.is("turned order", x.order(i), 11 - i);
        }
        Due.is("a long way round", x.lean(11, 0, true), Due.STATE);
        Due.is("below(0)", x.below(0), 11);
        x.lean(0, 1, false);
        Due.is("the least that may", x.order(0), 0);
        Due.is("then the last", x.order(1), 11);
    }

    /** Promise 12. */
    private static void below() {
        BoxcarHouses x = new BoxcarHouses();
        Due.is("below(0) of none", x.below(0), Due.UNKNOWN);
        for (int p = 0; p < 4; p++) {
            x.piece(0, 10, 0, false);
        }
        x.lean(0, 1, true);
        x.lean(0, 2, true);
        x.lean(1, 3, true);
        x.lean(2, 3, true);
        Due.is("each once", x.below(0), 3);
        Due.is("below(1)", x.below(1), 1);
        Due.is("below(3)", x.below(3), 0);
        Due.is("below(4)", x.below(4), Due.UNKNOWN);
        Due.is("below(-1)", x.below(-1), Due.UNKNOWN);
        Due.is("below(LEAST)", x.below(LEAST), Due.UNKNOWN);
    }

    /** Mirrors and stretches of any plan, reckoned by whole new rows of ends. */
    private static void anyPlan() {
        BoxcarHouses x = new BoxcarHouses();
        int n = Due.any(1, 12);
        int width = Due.any(50, 400);
        x.width(width);
        int[][] ends = new int[2][n];
        boolean[] fixed = new boolean[n];
        for (int p = 0; p < n; p++) {
            ends[0][p] = Due.any(0, 12) * 10;
            ends[1][p] = ends[0][p] + Due.any(1, 9) * 10;
            fixed[p] = Due.chance(20);
            x.piece(ends[0][p], ends[1][p] - ends[0][p], 0, fixed[p]);
        }
        int[][] meetings = n < 2 ? new int[0][] : new int[Due.any(0, 6)][];
        for (int m = 0; m < meetings.length; m++) {
            int a = Due.any(0, n - 1);
            int b = (a + Due.any(1, n - 1)) % n;
            meetings[m] = new int[] {a, Due.any(0, 1), b, Due.any(0, 1)};
            x.meet(meetings[m][0], meetings[m][1], meetings[m][2], meetings[m][3]);
        }
        for (int step = 0; step < 8; step++) {
            if (Due.chance(30)) {
                int due = mirrored(ends, meetings, width);
                Due.is("any mirror", x.mirror(), due);
            } else {
                width = anyStretch(x, ends, fixed, meetings, width);
            }
            int first = firstApart(ends, meetings);
            Due.is("any apart", x.apart(), first);
            Due.is("any width", x.count(7), width);
            for (int p = 0; p < n; p++) {
                Due.is("any place", x.about(p, 0), ends[0][p]);
                Due.is("any length", x.about(p, 1), ends[1][p] - ends[0][p]);
            }
        }
    }

    private static int mirrored(int[][] ends, int[][] meetings, int width) {
        for (int right : ends[1]) {
            if (right > width) {
                return Due.STATE;
            }
        }
        int moved = 0;
        for (int p = 0; p < ends[0].length; p++) {
            int left = width - ends[1][p];
            moved += left == ends[0][p] ? 0 : 1;
            ends[1][p] = width - ends[0][p];
            ends[0][p] = left;
        }
        for (int[] m : meetings) {
            m[1] ^= 1;
            m[3] ^= 1;
        }
        return moved;
    }

    private static int firstApart(int[][] ends, int[][] meetings) {
        for (int m = 0; m < meetings.length; m++) {
            int[] it = meetings[m];
            if (ends[it[1]][it[0]] != ends[it[3]][it[2]]) {
                return m;
            }
        }
        return Due.NONE;
    }

    private static int anyStretch(BoxcarHouses x, int[][] ends, boolean[] fixed, int[][] meetings, int width) {
        int line = Due.chance(60) ? Due.any(0, 25) * 10 : Due.any(0, 400);
        int by = Due.any(1, Due.chance(50) ? 10 : 100);
        int n = fixed.length;
        int[][] after = {ends[0].clone(), ends[1].clone()};
        int reason = 0;
        int longer = 0;
        boolean tooMuch = line <= width && width + by > 400;
        for (int p = 0; p < n; p++) {
            if (ends[0][p] >= line) {
                after[0][p] += by;
                after[1][p] += by;
            } else if (ends[1][p] > line) {
                after[1][p] += by;
                longer++;
                reason = reason == 0 && fixed[p] ? 100 + p : reason;
            }
            tooMuch |= after[0][p] > 400 || after[1][p] - after[0][p] > 200;
        }
        for (int m = 0; m < meetings.length && reason == 0; m++) {
            int[] it = meetings[m];
            boolean held = ends[it[1]][it[0]] == ends[it[3]][it[2]];
            if (held && after[it[1]][it[0]] != after[it[3]][it[2]]) {
                reason = 200 + m;
            }
        }
        if (reason == 0 && tooMuch) {
            reason = 300;
        }
        Due.is("any why", x.why(line, by), reason);
        Due.is("any stretch", x.stretch(line, by), reason == 0 ? longer : Due.STATE);
        if (reason != 0) {
            return width;
        }
        ends[0] = after[0];
        ends[1] = after[1];
        return line <= width ? width + by : width;
    }

    /** Leaning as a table of who rests on whom, filled by Warshall's way. */
    private static void anyLeaning() {
        BoxcarHouses x = new BoxcarHouses();
        int n = Due.any(1, 12);
        for (int p = 0; p < n; p++) {
            x.piece(0, 1, 0, false);
        }
        boolean[][] on = new boolean[n][n];
        for (int step = 0; step < 40; step++) {
            int a = Due.any(0, n - 1);
            int b = Due.any(0, n - 1);
            boolean is = Due.chance(70);
            boolean was = on[a][b];
            on[a][b] = is;
            boolean round = closed(on)[a][a];
            Due.is("any lean", x.lean(a, b, is), round ? Due.STATE : was ? 1 : 0);
            if (round) {
                on[a][b] = was;
            }
        }
        boolean[][] all = closed(on);
        boolean[] built = new boolean[n];
        for (int i = 0; i < n; i++) {
            int next = 0;
            while (built[next] || !ready(on[next], built)) {
                next++;
            }
            built[next] = true;
            Due.is("any order", x.order(i), next);
            int below = 0;
            for (boolean rests : all[i]) {
                below += rests ? 1 : 0;
            }
            Due.is("any below", x.below(i), below);
        }
    }

    private static boolean ready(boolean[] on, boolean[] built) {
        for (int p = 0; p < on.length; p++) {
            if (on[p] && !built[p]) {
                return false;
            }
        }
        return true;
    }

    private static boolean[][] closed(boolean[][] on) {
        int n = on.length;
        boolean[][] all = new boolean[n][];
        for (int a = 0; a < n; a++) {
            all[a] = on[a].clone();
        }
        for (int k = 0; k < n; k++) {
            for (int a = 0; a < n; a++) {
                for (int b = 0; b < n; b++) {
                    all[a][b] |= all[a][k] && all[k][b];
                }
            }
        }
        return all;
    }
}
