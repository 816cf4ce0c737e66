/** Promises 20 to 23: each sentence that names a limit, at it, just inside and just outside. */
public final class CarEdgesTest {
    public static void main(String[] args) {
        carTaken();
        carRefused();
        holdsAtFirst();
        holdsJustSo();
        holdsTheLeast();
        holdsTheMost();
        neitherHoldsAll();
        carOfNumbers();
        likeOnes();
        bits();
        turnedHolds();
        turnedEachTime();
        lengthensAway();
        Due.end();
    }

    private static World cars(World w, int first, int second) {
        return w.then(x -> x.car(0, first)).then(x -> x.car(1, second));
    }

    /** Promise 20: "each hold so much (1 to 3000 of LENGTHS together; 600 at first)". */
    private static void carTaken() {
        for (int i = 0; i < 2; i++) {
            int c = i;
            for (int v : new int[] {1, 2, 2999, 3000}) {
                World.empty().answers("Promise 20: how much it held at first", 600, x -> x.car(c, v));
                World.empty().answers("Promise 20: how much it held", v, x -> x.car(c, v) * 0 + x.car(c, 5));
                World.empty().answers("Promise 20: the other holds its own", 600, x -> x.car(c, v) * 0 + x.car(1 - c, 5));
            }
        }
    }

    /** Promise 20: UNKNOWN ahead of OUTSIDE. */
    private static void carRefused() {
        World w = cars(World.pieces(10, 20), 15, 25);
        for (int c : new int[] {Integer.MIN_VALUE, -1, 2, Integer.MAX_VALUE}) {
            w.refuses("Promise 20: no such car", Due.UNKNOWN, x -> x.car(c, 100));
            w.refuses("Promise 20: no such car, and too little", Due.UNKNOWN, x -> x.car(c, 0));
            w.refuses("Promise 20: no such car, and too much", Due.UNKNOWN, x -> x.car(c, 3001));
        }
        for (int v : new int[] {Integer.MIN_VALUE, -1, 0, 3001, Integer.MAX_VALUE}) {
            w.refuses("Promise 20: car(0, " + v + ")", Due.OUTSIDE, x -> x.car(0, v));
            w.refuses("Promise 20: car(1, " + v + ")", Due.OUTSIDE, x -> x.car(1, v));
        }
    }

    private static void holdsAtFirst() {
        World three = World.pieces(200, 200, 199);
        three.answers("Promise 22: 599 in car 0", 0, x -> x.carOf(2));
        three.answers("Promise 22: 600 in car 0", 0, x -> x.piece(0, 1, 0, false) * 0 + x.carOf(3));
        three.answers("Promise 22: 601 are not", 1, x -> x.piece(0, 2, 0, false) * 0 + x.carOf(3));
        World six = World.pieces(200, 200, 200, 200, 200, 199);
        six.answers("Promise 21: 1199 in both", 0, BoxcarHouses::packing);
        six.answers("Promise 21: 1200 in both", 0, x -> x.piece(0, 1, 0, false) * 0 + x.packing());
        six.answers("Promise 21: 1201 are not", Due.NONE, x -> x.piece(0, 2, 0, false) * 0 + x.packing());
    }

    /** A car holds as much as it holds, and not one more. */
    private static void holdsJustSo() {
        for (int i = 0; i < 2; i++) {
            int c = i;
            World w = World.pieces(10, 20, 30).then(x -> x.car(1 - c, 1));
            w.answers("Promise 21: just so", 0, x -> x.car(c, 60) * 0 + x.packing());
            w.answers("Promise 22: just so", c, x -> x.car(c, 60) * 0 + x.carOf(2));
            w.answers("Promise 21: one more", 0, x -> x.car(c, 61) * 0 + x.packing());
            w.answers("Promise 21: one less", Due.NONE, x -> x.car(c, 59) * 0 + x.packing());
            w.answers("Promise 22: one less", Due.NONE, x -> x.car(c, 59) * 0 + x.carOf(2));
        }
    }

    private static void holdsTheLeast() {
        cars(World.pieces(1, 1), 1, 1).answers("Promise 21: one each", 0, BoxcarHouses::packing);
        cars(World.pieces(1, 1), 1, 1).answers("Promise 22: the second is elsewhere", 1, x -> x.carOf(1));
        cars(World.pieces(1, 1, 1), 1, 1).answers("Promise 21: three are too many", Due.NONE, BoxcarHouses::packing);
        cars(World.pieces(2), 1, 1).answers("Promise 21: one is too long", Due.NONE, BoxcarHouses::packing);
        cars(World.pieces(2), 1, 2).answers("Promise 22: it is in car 1", 1, x -> x.carOf(0));
    }

    private static void holdsTheMost() {
        cars(World.alike(12, 200), 2400, 1).answers("Promise 21: all in car 0 just so", 0, BoxcarHouses::packing);
        cars(World.alike(12, 200), 2399, 1).answers("Promise 21: one less", Due.NONE, BoxcarHouses::packing);
        cars(World.alike(12, 200), 2399, 200).answers("Promise 22: one elsewhere", 1, x -> x.carOf(11));
        cars(World.alike(12, 200), 3000, 3000).answers("Promise 23: all in car 1", 0, x -> x.turned(4095));
    }

    /** "NONE: they do not hold all": together they would, but no piece is cut for it. */
    private static void neitherHoldsAll() {
        World w = cars(World.pieces(20, 20, 20), 30, 30);
        w.answers("Promise 21: together they would", Due.NONE, BoxcarHouses::packing);
        for (int i = 0; i < 3; i++) {
            int p = i;
            w.answers("Promise 22: none", Due.NONE, x -> x.carOf(p));
        }
        w.refuses("Promise 22: no such piece, and none", Due.UNKNOWN, x -> x.carOf(3));
        w.answers("Promise 21: one of them more", 0, x -> x.car(1, 40) * 0 + x.packing());
        for (int set = 0; set < 8; set++) {
            int s = set;
            w.answers("Promise 23: none", Due.NONE, x -> x.turned(s));
        }
    }

    /** Promise 22: the first, the last, one below and one above. */
    private static void carOfNumbers() {
        for (int many = 1; many <= 12; many++) {
            int last = many - 1;
            World w = World.alike(many, 1);
            w.answers("Promise 22: the first", 0, x -> x.carOf(0));
            w.answers("Promise 22: the last", 0, x -> x.carOf(last));
            w.answers("Promise 22: car 0 holds the first alone", last == 0 ? 0 : 1, x -> x.car(0, 1) * 0 + x.carOf(last));
            w.refuses("Promise 22: above the last", Due.UNKNOWN, x -> x.carOf(last + 1));
            w.refuses("Promise 22: below the first", Due.UNKNOWN, x -> x.carOf(-1));
        }
    }

    /** "of like ones by PIECE (0 first) the lesser car". */
    private static void likeOnes() {
        World w = cars(World.pieces(10, 10, 10), 20, 20);
        int[] due = {0, 0, 1};
        for (int i = 0; i < 3; i++) {
            int p = i;
            w.answers("Promise 22: as many as may be in car 0, " + p, due[p], x -> x.carOf(p));
        }
        World turned = World.pieces(10, 10).then(x -> x.lean(0, 1, true));
        turned.answers("Promise 21: apart, none is turned over", 0, BoxcarHouses::packing);
        turned.answers("Promise 22: 0 in the lesser", 0, x -> x.carOf(0));
        turned.answers("Promise 22: 1 in the other", 1, x -> x.carOf(1));
        turned.answers("Promise 21: both in one", 1, x -> x.car(0, 9) * 0 + x.packing());
        World fewest = cars(World.pieces(10, 10, 10).then(x -> x.lean(0, 2, true)), 20, 20);
        fewest.answers("Promise 21: fewest goes ahead of the lesser car", 0, BoxcarHouses::packing);
        int[] dueThen = {0, 1, 1};
        for (int i = 0; i < 3; i++) {
            int p = i;
            fewest.answers("Promise 22: 0 by itself, " + p, dueThen[p], x -> x.carOf(p));
        }
    }

    /** Promise 23: "OUTSIDE: a bit is no PIECE". */
    private static void bits() {
        for (int i = 0; i <= 12; i++) {
            int many = i;
            World w = World.alike(many, 1);
            int all = (1 << many) - 1;
            w.answers("Promise 23: no bit", 0, x -> x.turned(0));
            w.answers("Promise 23: all bits", 0, x -> x.turned(all));
            w.refuses("Promise 23: the bit above alone", Due.OUTSIDE, x -> x.turned(all + 1));
            w.refuses("Promise 23: the bit above with all", Due.OUTSIDE, x -> x.turned(2 * all + 1));
            w.refuses("Promise 23: the highest bit alone", Due.OUTSIDE, x -> x.turned(Integer.MIN_VALUE));
            w.refuses("Promise 23: every bit", Due.OUTSIDE, x -> x.turned(-1));
            w.refuses("Promise 23: every bit but the highest", Due.OUTSIDE, x -> x.turned(Integer.MAX_VALUE));
        }
        World small = cars(World.pieces(10), 1, 1);
        small.answers("Promise 23: a car does not hold it", Due.NONE, x -> x.turned(1));
        small.refuses("Promise 23: OUTSIDE all the same", Due.OUTSIDE, x -> x.turned(2));
    }

    /** Promise 23: "NONE: a car does not hold them". */
    private static void turnedHolds() {
        World w = cars(World.pieces(10, 20, 30), 30, 30);
        int[] due = {Due.NONE, Due.NONE, Due.NONE, 0, 0, Due.NONE, Due.NONE, Due.NONE};
        for (int i = 0; i < 8; i++) {
            int set = i;
            w.answers("Promise 23: turned(" + set + ")", due[set], x -> x.turned(set));
        }
        w.answers("Promise 23: car 1 holds one less", Due.NONE, x -> x.car(1, 29) * 0 + x.turned(3));
        w.answers("Promise 23: car 0 holds one less", Due.NONE, x -> x.car(0, 29) * 0 + x.turned(3));
    }

    /** "fewest TURNED OVER, each time each": the most that there may be. */
    private static void turnedEachTime() {
        World w = World.alike(12, 1);
        for (int p = 0; p < 11; p++) {
            int a = p;
            w.then(x -> x.lean(a, a + 1, true));
        }
        w.answers("Promise 23: eleven, ten, .. none", 66, x -> x.turned(0));
        w.answers("Promise 23: in the other car", 66, x -> x.turned(4095));
        w.answers("Promise 23: the top one elsewhere", 55, x -> x.turned(1));
        w.answers("Promise 23: the lowest one elsewhere", 55, x -> x.turned(2048));
        w.answers("Promise 21: six and six", 30, BoxcarHouses::packing);
        w.answers("Promise 21: car 1 holds none but one", 55, x -> x.car(1, 1) * 0 + x.packing());
        w.answers("Promise 22: it is the last", 1, x -> x.car(1, 1) * 0 + x.carOf(11));
    }

    /** What a stretch makes longer may not be held any more; a refused stretch changes nothing of it. */
    private static void lengthensAway() {
        World w = cars(World.pieces(100, 100), 100, 100);
        w.answers("Promise 21: held", 0, BoxcarHouses::packing);
        w.answers("Promise 21: longer by one, not held", Due.NONE, x -> x.stretch(50, 1) * 0 + x.packing());
        World fixed = cars(World.pieces(100, 99).then(x -> x.piece(0, 51, 0, true)), 100, 150);
        fixed.answers("Promise 21: held with a fixed one", 0, BoxcarHouses::packing);
        fixed.refuses("Promise 8: a refused stretch makes none longer", Due.STATE, x -> x.stretch(50, 1));
        fixed.answers("Promise 21: behind the fixed one a stretch does", Due.NONE, x -> x.stretch(51, 1) * 0 + x.packing());
    }
}
