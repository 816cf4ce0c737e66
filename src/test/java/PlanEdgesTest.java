/** Promises 2 to 12: each sentence that names a limit, at it, just inside and just outside. */
public final class PlanEdgesTest {
    public static void main(String[] args) {
        widthTaken();
        widthOfMirror();
        pieceTaken();
        pieceBeyondTheWidth();
        meetOrder();
        holds();
        mirrorToZero();
        mirrorCounts();
        whereALineIs();
        shortestPiece();
        fixedAcross();
        meetingAtTheLine();
        lengthTo200();
        placeTo400();
        widthTo400();
        widthAtTheLine();
        whyInOrder();
        whyTellsNumbers();
        whyAsStretch();
        leansRound();
        leanAgain();
        order();
        below();
        Due.end();
    }

    private static World with(int place, int length, boolean fixed) {
        return World.empty().then(x -> x.piece(place, length, 0, fixed));
    }

    private static int placeAndLength(BoxcarHouses x, int piece) {
        return x.about(piece, 0) * 1000 + x.about(piece, 1);
    }

    /** Promise 2: "WIDTH (1 to 400)". */
    private static void widthTaken() {
        for (int v : new int[] {1, 2, 399, 400}) {
            World.empty().answers("Promise 2: width(" + v + ") tells what it was", 100, x -> x.width(v));
            World.empty().answers("Promise 2: width(" + v + ") is so", v, x -> x.width(v) * 0 + x.count(7));
            World.empty().answers("Promise 2: width(" + v + ") was so", v, x -> x.width(v) * 0 + x.width(50));
        }
        for (int v : new int[] {Integer.MIN_VALUE, -1, 0, 401, Integer.MAX_VALUE}) {
            World.some().refuses("Promise 2: width(" + v + ")", Due.OUTSIDE, x -> x.width(v));
        }
    }

    private static void widthOfMirror() {
        World least = World.empty().then(x -> x.width(1));
        least.answers("Promise 7: the least width, just filled", 0, x -> x.piece(0, 1, 0, true) + x.mirror());
        least.answers("Promise 7: the least width, too long", Due.STATE, x -> x.piece(0, 2, 0, true) + x.mirror());
        World most = World.empty().then(x -> x.width(400));
        most.answers("Promise 7: the greatest width, the last place", 1, x -> x.piece(399, 1, 0, true) + x.mirror());
        most.answers("Promise 7: the greatest width, too far", Due.STATE, x -> x.piece(400, 1, 0, true) + x.mirror());
        most.answers("Promise 7: to its middle", 200200, x -> x.piece(0, 200, 0, true) + x.mirror() * 0 + placeAndLength(x, 0));
    }

    /** Promise 3: "a PLACE (0 to 400), a LENGTH (1 to 200), a LEVEL (0 to 9)". */
    private static void pieceTaken() {
        int[][] rows = {{0, 1, 0}, {1, 2, 1}, {399, 199, 8}, {400, 200, 9}, {0, 200, 9}, {400, 1, 0}};
        for (int[] row : rows) {
            for (int i = 0; i < 3; i++) {
                int what = i;
                World.empty().answers("Promise 3: as it was told", row[what], x -> x.piece(row[0], row[1], row[2], true) + x.about(0, what));
            }
            World.empty().answers("Promise 4: it is fixed", 1, x -> x.piece(row[0], row[1], row[2], true) + x.about(0, 3));
            World.empty().answers("Promise 4: it may be stretched", 0, x -> x.piece(row[0], row[1], row[2], false) + x.about(0, 3));
        }
        int[][] bad = {{-1, 1, 0}, {401, 1, 0}, {0, 0, 0}, {0, 201, 0}, {0, -1, 0}, {0, 1, -1}, {0, 1, 10}};
        for (int[] row : bad) {
            World.some().refuses("Promise 3: a piece outside", Due.OUTSIDE, x -> x.piece(row[0], row[1], row[2], true));
        }
    }

    /** "It may reach beyond the WIDTH." */
    private static void pieceBeyondTheWidth() {
        World least = World.empty().then(x -> x.width(1));
        least.answers("Promise 3: behind the width", 0, x -> x.piece(400, 200, 0, false));
        least.answers("Promise 3: across the width", 0, x -> x.piece(0, 2, 0, false));
        with(0, 100, false).answers("Promise 2: the width may be less than a piece", 100, x -> x.width(1));
    }

    /** Promise 5: UNKNOWN, OUTSIDE, STATE, FULL: "of several the first that a call names". */
    private static void meetOrder() {
        World two = World.empty().then(x -> x.piece(0, 10, 0, false)).then(x -> x.piece(10, 10, 0, false));
        two.refuses("Promise 5: the first is none", Due.UNKNOWN, x -> x.meet(2, 0, 0, 0));
        two.refuses("Promise 5: the other is none", Due.UNKNOWN, x -> x.meet(0, 0, 2, 0));
        two.refuses("Promise 5: one that is none, with itself", Due.UNKNOWN, x -> x.meet(2, 0, 2, 1));
        two.refuses("Promise 5: none, and its end outside", Due.UNKNOWN, x -> x.meet(-1, 2, 0, 0));
        two.refuses("Promise 5: the other none, the first's end outside", Due.UNKNOWN, x -> x.meet(0, 2, 2, 0));
        two.refuses("Promise 5: an end", Due.OUTSIDE, x -> x.meet(0, 2, 1, 0));
        two.refuses("Promise 5: an end below", Due.OUTSIDE, x -> x.meet(0, -1, 1, 0));
        two.refuses("Promise 5: the other end", Due.OUTSIDE, x -> x.meet(0, 0, 1, 2));
        two.refuses("Promise 5: the other end below", Due.OUTSIDE, x -> x.meet(0, 0, 1, -1));
        two.refuses("Promise 5: an end, with itself", Due.OUTSIDE, x -> x.meet(1, 0, 1, 2));
        two.refuses("Promise 5: with itself", Due.STATE, x -> x.meet(1, 0, 1, 0));
        two.refuses("Promise 5: its other end", Due.STATE, x -> x.meet(0, 0, 0, 1));
        for (int end = 0; end < 2; end++) {
            int e = end;
            two.answers("Promise 5: ends 0 and 1", 0, x -> x.meet(0, e, 1, 1 - e));
            two.answers("Promise 5: ends alike", 0, x -> x.meet(1, e, 0, e));
        }
        two.answers("Promise 5: the same twice", 1, x -> x.meet(0, 1, 1, 0) + x.meet(0, 1, 1, 0));
    }

    /** "It HOLDS, if both ends are at one place." */
    private static void holds() {
        for (int off = -1; off <= 1; off++) {
            int due = off == 0 ? Due.NONE : 0;
            int place = 30 + off;
            World ends = with(10, 20, false).then(x -> x.piece(place, 5, 0, false)).then(x -> x.piece(20 + place - 30, 10, 0, false));
            ends.answers("Promise 6: right and left", due, x -> x.meet(0, 1, 1, 0) + x.apart());
            ends.answers("Promise 6: right and right", due, x -> x.meet(0, 1, 2, 1) + x.apart());
            World lefts = with(30, 20, false).then(x -> x.piece(place, 50, 9, true));
            lefts.answers("Promise 6: left and left, levels apart", due, x -> x.meet(0, 0, 1, 0) + x.apart());
        }
        World far = with(400, 200, false).then(x -> x.piece(400, 199, 0, false));
        far.answers("Promise 6: at 400", Due.NONE, x -> x.meet(0, 0, 1, 0) + x.apart());
        far.answers("Promise 6: at 600 and 599", 0, x -> x.meet(0, 1, 1, 1) + x.apart());
    }

    /** Promise 7: "STATE: a left end would be below 0". */
    private static void mirrorToZero() {
        with(1, 98, false).answers("Promise 7: to 1", 1098, x -> x.mirror() * 0 + placeAndLength(x, 0));
        with(1, 99, false).answers("Promise 7: to 0", 99, x -> x.mirror() * 0 + placeAndLength(x, 0));
        with(1, 100, false).refuses("Promise 7: to -1", Due.STATE, BoxcarHouses::mirror);
        World first = with(1, 100, false).then(x -> x.piece(5, 5, 0, false)).then(x -> x.meet(0, 0, 1, 0));
        first.refuses("Promise 7: the first would be below 0", Due.STATE, BoxcarHouses::mirror);
        World last = with(5, 5, false).then(x -> x.piece(1, 100, 0, false)).then(x -> x.meet(0, 0, 1, 0));
        last.refuses("Promise 7: the last would be below 0", Due.STATE, BoxcarHouses::mirror);
        with(400, 200, true).refuses("Promise 7: far below 0", Due.STATE, BoxcarHouses::mirror);
        with(0, 100, true).answers("Promise 7: a fixed one is mirrored too", 0, BoxcarHouses::mirror);
    }

    /** Promise 7: "how many PIECES have another PLACE then". */
    private static void mirrorCounts() {
        with(40, 20, false).answers("Promise 7: in the middle", 0, BoxcarHouses::mirror);
        with(39, 20, false).answers("Promise 7: one ahead of it", 1, BoxcarHouses::mirror);
        with(41, 20, false).answers("Promise 7: one behind it", 1, BoxcarHouses::mirror);
        World three = with(40, 20, false).then(x -> x.piece(0, 100, 0, false)).then(x -> x.piece(0, 99, 0, false));
        three.answers("Promise 7: one of three", 1, BoxcarHouses::mirror);
        three.answers("Promise 7: twice is as it was", 99, x -> x.mirror() * x.mirror() * 0 + placeAndLength(x, 2));
    }

    /** "PIECES whose left end is at the LINE or behind move; those whose right end is at the LINE or ahead stay; others .." */
    private static void whereALineIs() {
        int[][] rows = {{0, 13020, 0}, {9, 13020, 0}, {10, 13020, 0}, {11, 10023, 1}, {29, 10023, 1}, {30, 10020, 0}, {31, 10020, 0},
            {400, 10020, 0}};
        for (int[] row : rows) {
            World w = with(10, 20, false);
            w.answers("Promise 8: at " + row[0] + ", how many are longer", row[2], x -> x.stretch(row[0], 3));
            w.answers("Promise 8: at " + row[0] + ", what becomes of it", row[1], x -> x.stretch(row[0], 3) * 0 + placeAndLength(x, 0));
        }
        with(0, 20, false).answers("Promise 8: at 0 one at 0 moves", 100020, x -> x.stretch(0, 100) + placeAndLength(x, 0));
        with(0, 20, false).answers("Promise 8: at 1 it is longer", 121, x -> x.stretch(1, 100) + placeAndLength(x, 0));
    }

    private static void shortestPiece() {
        with(10, 1, true).answers("Promise 8: one of length 1 moves", 11001, x -> x.stretch(10, 1) + placeAndLength(x, 0));
        with(10, 1, true).answers("Promise 8: or stays: no line is across it", 10001, x -> x.stretch(11, 1) + placeAndLength(x, 0));
        with(10, 2, false).answers("Promise 8: one of length 2 has a line across", 1, x -> x.stretch(11, 1));
    }

    /** "It is refused, if one that is across is FIXED." */
    private static void fixedAcross() {
        World w = with(10, 20, true);
        int[][] rows = {{9, 0}, {10, 0}, {11, 100}, {29, 100}, {30, 0}, {31, 0}};
        for (int[] row : rows) {
            w.answers("Promise 9: at " + row[0], row[1], x -> x.why(row[0], 1));
            if (row[1] == 0) {
                w.answers("Promise 8: at " + row[0], 0, x -> x.stretch(row[0], 1));
            } else {
                w.refuses("Promise 8: at " + row[0], Due.STATE, x -> x.stretch(row[0], 1));
            }
        }
        World both = with(10, 20, false).then(x -> x.piece(0, 11, 0, true)).then(x -> x.piece(10, 20, 0, true));
        both.answers("Promise 9: a fixed one that ends there does not hinder", 102, x -> x.why(11, 1));
        both.refuses("Promise 8: what may be stretched is not, if another is fixed", Due.STATE, x -> x.stretch(11, 1));
    }

    /** ".. or a MEETING that HELD would not HOLD any more." */
    private static void meetingAtTheLine() {
        World w = with(10, 20, false).then(x -> x.piece(30, 20, 0, false)).then(x -> x.meet(1, 0, 0, 1));
        w.answers("Promise 9: just ahead", 0, x -> x.why(29, 100));
        w.answers("Promise 9: at it", 200, x -> x.why(30, 1));
        w.answers("Promise 9: just behind", 0, x -> x.why(31, 100));
        w.refuses("Promise 8: at it", Due.STATE, x -> x.stretch(30, 1));
        w.answers("Promise 6: just ahead, it holds", Due.NONE, x -> x.stretch(29, 100) * 0 + x.apart());
        w.answers("Promise 6: just behind, it holds", Due.NONE, x -> x.stretch(31, 100) * 0 + x.apart());
        World off = with(10, 20, false).then(x -> x.piece(31, 20, 0, false)).then(x -> x.meet(0, 1, 1, 0));
        off.answers("Promise 9: what did not hold does not hinder", 0, x -> x.why(31, 1));
        off.answers("Promise 8: nor is it refused", 0, x -> x.stretch(31, 1));
        World same = with(10, 20, false).then(x -> x.piece(20, 10, 0, false)).then(x -> x.piece(10, 5, 0, false));
        same.then(x -> x.meet(0, 1, 1, 1)).then(x -> x.meet(0, 0, 2, 0));
        for (int at = 9; at <= 31; at++) {
            int line = at;
            same.answers("Promise 9: ends alike go together at " + line, 0, x -> x.why(line, 1));
        }
    }

    /** ".. or a LENGTH would be above 200." */
    private static void lengthTo200() {
        int[][] rows = {{100, 100, 0}, {101, 100, 300}, {101, 99, 0}, {199, 1, 0}, {199, 2, 300}, {200, 1, 300}, {198, 1, 0}};
        for (int[] row : rows) {
            World w = with(0, row[0], false);
            w.answers("Promise 9: " + row[0] + " by " + row[1], row[2], x -> x.why(50, row[1]));
            if (row[2] == 0) {
                w.answers("Promise 8: " + row[0] + " by " + row[1], row[0] + row[1], x -> x.stretch(50, row[1]) * 0 + x.about(0, 1));
            } else {
                w.refuses("Promise 8: " + row[0] + " by " + row[1], Due.STATE, x -> x.stretch(50, row[1]));
            }
        }
        with(50, 200, false).answers("Promise 8: one of 200 may move", 51200, x -> x.stretch(50, 1) + placeAndLength(x, 0));
        with(50, 200, false).answers("Promise 8: and stay", 50200, x -> x.stretch(250, 1) + placeAndLength(x, 0));
        World second = with(0, 20, false).then(x -> x.piece(0, 200, 0, false));
        second.refuses("Promise 8: the second would be too long", Due.STATE, x -> x.stretch(10, 1));
    }

    /** ".. a left end above 400." */
    private static void placeTo400() {
        int[][] rows = {{399, 1, 0}, {399, 2, 300}, {400, 1, 300}, {300, 100, 0}, {301, 100, 300}, {301, 99, 0}};
        for (int[] row : rows) {
            World w = with(row[0], 200, true);
            w.answers("Promise 9: " + row[0] + " by " + row[1], row[2], x -> x.why(200, row[1]));
            if (row[2] == 0) {
                w.answers("Promise 8: " + row[0] + " by " + row[1], row[0] + row[1], x -> x.stretch(200, row[1]) * 0 + x.about(0, 0));
            } else {
                w.refuses("Promise 8: " + row[0] + " by " + row[1], Due.STATE, x -> x.stretch(200, row[1]));
            }
        }
        with(400, 1, false).answers("Promise 9: the last line, the last place", 300, x -> x.why(400, 1));
        with(399, 2, false).answers("Promise 9: a right end may be behind 400", 0, x -> x.why(400, 100));
        World second = with(0, 20, false).then(x -> x.piece(400, 1, 0, false));
        second.refuses("Promise 8: the second would be too far", Due.STATE, x -> x.stretch(30, 1));
    }

    /** "The WIDTH grows by it (400 at most: else refused)." */
    private static void widthTo400() {
        int[][] rows = {{399, 1, 0}, {399, 2, 300}, {400, 1, 300}, {300, 100, 0}, {301, 100, 300}, {301, 99, 0}};
        for (int[] row : rows) {
            World w = with(0, 20, false).then(x -> x.width(row[0]));
            w.answers("Promise 9: width " + row[0] + " by " + row[1], row[2], x -> x.why(20, row[1]));
            if (row[2] == 0) {
                w.answers("Promise 8: width " + row[0] + " by " + row[1], row[0] + row[1], x -> x.stretch(20, row[1]) * 0 + x.count(7));
            } else {
                w.refuses("Promise 8: width " + row[0] + " by " + row[1], Due.STATE, x -> x.stretch(20, row[1]));
            }
        }
    }

    /** ".. if the LINE is at it or ahead." */
    private static void widthAtTheLine() {
        int[][] rows = {{0, 101}, {99, 101}, {100, 101}, {101, 100}, {400, 100}};
        for (int[] row : rows) {
            World.empty().answers("Promise 8: at " + row[0], row[1], x -> x.stretch(row[0], 1) + x.count(7));
        }
        World most = World.empty().then(x -> x.width(399));
        most.answers("Promise 8: behind the width by the most", 399, x -> x.stretch(400, 100) + x.count(7));
        most.answers("Promise 8: at the width", 400, x -> x.stretch(399, 1) + x.count(7));
        most.refuses("Promise 8: at the width by too much", Due.STATE, x -> x.stretch(399, 2));
        World full = World.empty().then(x -> x.width(400));
        full.refuses("Promise 8: the greatest width never grows", Due.STATE, x -> x.stretch(400, 1));
        full.answers("Promise 9: too wide", 300, x -> x.why(400, 1));
        World least = World.empty().then(x -> x.width(1));
        least.answers("Promise 8: the least width", 101, x -> x.stretch(1, 100) + x.count(7));
        least.answers("Promise 8: behind the least width", 1, x -> x.stretch(2, 100) + x.count(7));
    }

    /** Promise 9: FIXED ahead of a MEETING, a MEETING ahead of too long, too far, too wide. */
    private static void whyInOrder() {
        World w = World.empty().then(x -> x.width(400)).then(x -> x.piece(0, 40, 0, false)).then(x -> x.piece(40, 40, 0, false));
        w.answers("Promise 9: too wide alone", 300, x -> x.why(40, 1));
        w.then(x -> x.meet(0, 1, 1, 0));
        w.answers("Promise 9: a meeting goes ahead", 200, x -> x.why(40, 1));
        w.answers("Promise 9: where it holds, too wide", 300, x -> x.why(41, 1));
        w.then(x -> x.piece(30, 20, 0, true));
        w.answers("Promise 9: a fixed one goes ahead", 102, x -> x.why(40, 1));
        w.refuses("Promise 8: all the same STATE", Due.STATE, x -> x.stretch(40, 1));
        w.refuses("Promise 9: a line outside goes ahead of all", Due.OUTSIDE, x -> x.why(401, 1));
        w.refuses("Promise 9: by outside goes ahead of all", Due.OUTSIDE, x -> x.why(40, 101));
        w.refuses("Promise 8: outside goes ahead of STATE", Due.OUTSIDE, x -> x.stretch(40, 0));
    }

    /** Promise 9: "100 and the first PIECE", "200 and the first MEETING". */
    private static void whyTellsNumbers() {
        for (int i = 0; i < 12; i++) {
            int fixed = i;
            World w = World.empty();
            for (int p = 0; p < 12; p++) {
                boolean is = p >= fixed;
                w.then(x -> x.piece(10, 20, 0, is));
            }
            w.answers("Promise 9: the first fixed one is " + fixed, 100 + fixed, x -> x.why(20, 1));
        }
        for (int i = 0; i < 20; i++) {
            int held = i;
            World w = with(10, 20, false).then(x -> x.piece(30, 20, 0, false));
            for (int m = 0; m < 20; m++) {
                int end = m >= held ? 1 : 0;
                w.then(x -> x.meet(0, end, 1, 0));
            }
            w.answers("Promise 9: the first meeting is " + held, 200 + held, x -> x.why(30, 1));
        }
    }

    /** It is refused just where there is a why, and then nothing has changed. */
    private static void whyAsStretch() {
        World w = World.some();
        for (int by : new int[] {1, 100}) {
            for (int at = 0; at <= 400; at++) {
                int line = at;
                boolean hinders = w.make().why(line, by) != 0;
                Due.truth("Promise 8: as why says at " + line, hinders == (w.make().stretch(line, by) == Due.STATE));
                if (hinders && line % 10 < 2) {
                    w.refuses("Promise 8: at " + line, Due.STATE, x -> x.stretch(line, by));
                }
            }
        }
    }

    /** Promise 10: "STATE: it would lean on itself, round about", by a way of 1 to 12 pieces. */
    private static void leansRound() {
        for (int i = 1; i <= 12; i++) {
            int many = i;
            World w = World.alike(many, 10);
            for (int p = 0; p + 1 < many; p++) {
                int a = p;
                w.then(x -> x.lean(a, a + 1, true));
            }
            w.refuses("Promise 10: round by " + many, Due.STATE, x -> x.lean(many - 1, 0, true));
            w.answers("Promise 10: not to lean is no matter", 0, x -> x.lean(many - 1, 0, false));
            if (many > 2) {
                w.answers("Promise 10: another way down is none round", 0, x -> x.lean(0, many - 1, true));
                w.answers("Promise 10: with a gap it is none round", 0, x -> x.lean(1, 2, false) * 0 + x.lean(many - 1, 0, true));
            }
            w.refuses("Promise 10: none leans, round or not", Due.UNKNOWN, x -> x.lean(many, many, true));
            w.refuses("Promise 10: on none", Due.UNKNOWN, x -> x.lean(0, many, true));
            w.refuses("Promise 10: below the first", Due.UNKNOWN, x -> x.lean(-1, -1, true));
        }
    }

    /** Promise 10: "how it was: 1, 0". */
    private static void leanAgain() {
        World w = World.alike(12, 10).then(x -> x.lean(11, 0, true));
        w.answers("Promise 10: it leaned", 1, x -> x.lean(11, 0, true));
        w.answers("Promise 10: it leans still", 1, x -> x.lean(11, 0, true) * 0 + x.lean(11, 0, false));
        w.answers("Promise 10: then not", 0, x -> x.lean(11, 0, false) * 0 + x.lean(11, 0, false));
        w.answers("Promise 10: then it may be round the other way", 0, x -> x.lean(11, 0, false) * 0 + x.lean(0, 11, true));
        w.refuses("Promise 10: the other way now", Due.STATE, x -> x.lean(0, 11, true));
    }

    /** Promise 11: the i-th from 0 on. */
    private static void order() {
        for (int i = 1; i <= 12; i++) {
            int many = i;
            World w = World.alike(many, 10).then(x -> many == 1 ? 0 : x.lean(0, many - 1, true));
            w.answers("Promise 11: ahead of the first", Due.NONE, x -> x.order(-1));
            w.answers("Promise 11: the first", many == 1 ? 0 : 1, x -> x.order(0));
            w.answers("Promise 11: what leans on the last is the last", 0, x -> x.order(many - 1));
            w.answers("Promise 11: behind the last", Due.NONE, x -> x.order(many));
        }
    }

    /** Promise 12: on none, on one, on all others. */
    private static void below() {
        World w = World.alike(12, 10);
        for (int i = 0; i < 12; i++) {
            int p = i;
            w.answers("Promise 12: on none", 0, x -> x.below(p));
        }
        for (int p = 0; p < 11; p++) {
            int a = p;
            w.then(x -> x.lean(a, a + 1, true));
        }
        for (int i = 0; i < 12; i++) {
            int p = i;
            w.answers("Promise 12: on all behind it", 11 - p, x -> x.below(p));
        }
        World flat = World.alike(12, 10);
        for (int p = 1; p < 12; p++) {
            int b = p;
            flat.then(x -> x.lean(0, b, true));
        }
        flat.answers("Promise 12: on all at once", 11, x -> x.below(0));
    }
}
