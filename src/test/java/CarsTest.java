import java.util.ArrayList;
import java.util.List;

/** Promises 20 to 23: cars, against the document's words and against cars that are unpacked piece by piece. */
public final class CarsTest {
    private static final int MOST = Integer.MAX_VALUE, LEAST = Integer.MIN_VALUE;

    public static void main(String[] args) {
        car();
        packing();
        carOf();
        turned();
        forgetting();
        twelve();
        for (int run = 0; run < 300; run++) {
            anyPacking(Due.any(0, 7));
        }
        for (int run = 0; run < 10; run++) {
            anyPacking(12);
        }
        Due.end();
    }

    /** Promise 20. */
    private static void car() {
        BoxcarHouses x = new BoxcarHouses();
        for (int c : new int[] {-1, 2, MOST, LEAST}) {
            Due.is("car(" + c + ", 5)", x.car(c, 5), Due.UNKNOWN);
            Due.is("car(" + c + ", 0)", x.car(c, 0), Due.UNKNOWN);
        }
        for (int v : new int[] {0, 3001, -1, MOST, LEAST}) {
            Due.is("car(0, " + v + ")", x.car(0, v), Due.OUTSIDE);
            Due.is("car(1, " + v + ")", x.car(1, v), Due.OUTSIDE);
        }
        Due.is("car(0, 1)", x.car(0, 1), 600);
        Due.is("car(1, 3000)", x.car(1, 3000), 600);
        Due.is("car(0, 3000)", x.car(0, 3000), 1);
        Due.is("car(1, 1)", x.car(1, 1), 3000);
    }

    /** Promise 21. */
    private static void packing() {
        BoxcarHouses x = Due.pieces(10, 10, 10);
        Due.is("in order from the top", x.packing(), 0);
        x.lean(0, 1, true);
        x.lean(1, 2, true);
        Due.is("turned order", x.packing(), 1);
        Due.is("0 and 1 are in car 0", x.carOf(1), 0);
        Due.is("2 is in car 1", x.carOf(2), 1);
        x.car(0, 9);
        Due.is("all in one", x.packing(), 3);
        x.car(1, 29);
        Due.is("they do not hold all", x.packing(), Due.NONE);
        x.car(1, 30);
        Due.is("they do just so", x.packing(), 3);
        x.car(0, 10);
        Due.is("better", x.packing(), 1);
    }

    /** Promise 22. */
    private static void carOf() {
        BoxcarHouses x = Due.pieces(10, 20, 30);
        for (int p : new int[] {-1, 3, 12, MOST, LEAST}) {
            Due.is("carOf(" + p + ")", x.carOf(p), Due.UNKNOWN);
        }
        for (int p = 0; p < 3; p++) {
            Due.is("the lesser car", x.carOf(p), 0);
        }
        x.car(0, 59);
        Due.is("0 first", x.carOf(0), 0);
        Due.is("then 1", x.carOf(1), 0);
        Due.is("not 2", x.carOf(2), 1);
        x.car(1, 29);
        Due.is("0 first", x.carOf(0), 0);
        Due.is("not 1", x.carOf(1), 1);
        Due.is("but 2", x.carOf(2), 0);
        x.car(0, 29);
        Due.is("they do not hold all", x.carOf(0), Due.NONE);
        Due.is("unknown even so", x.carOf(3), Due.UNKNOWN);
    }

    /** Promise 23. */
    private static void turned() {
        BoxcarHouses x = Due.pieces(10, 20, 30);
        for (int set : new int[] {8, 15, -1, MOST, LEAST, 1 << 12}) {
            Due.is("turned(" + set + ")", x.turned(set), Due.OUTSIDE);
        }
        x.lean(0, 2, true);
        Due.is("order", x.order(0) * 100 + x.order(1) * 10 + x.order(2), 120);
        Due.is("all in car 0", x.turned(0), 2);
        Due.is("all in car 1", x.turned(7), 2);
        Due.is("0 by itself", x.turned(1), 0);
        Due.is("1 by itself", x.turned(2), 1);
        Due.is("2 by itself", x.turned(4), 1);
        x.car(0, 50);
        Due.is("car 0 does not hold them", x.turned(0), Due.NONE);
        Due.is("it holds them just so", x.turned(1), 0);
        x.car(1, 59);
        Due.is("car 1 does not hold them", x.turned(7), Due.NONE);
        Due.is("it does", x.turned(6), 0);
        Due.is("outside even so", x.turned(8), Due.OUTSIDE);
    }

    private static void forgetting() {
        BoxcarHouses x = Due.pieces(200, 200, 200);
        Due.is("all in car 0", x.packing() + x.carOf(2), 0);
        x.piece(0, 1, 0, false);
        Due.is("the new one is elsewhere", x.carOf(3), 1);
        x.lean(0, 3, true);
        Due.is("3 comes behind 1 and 2 and ahead of 0", x.order(2), 3);
        Due.is("turned", x.turned(0), Due.NONE);
        x.car(0, 601);
        Due.is("held, with 0 above the three others", x.turned(0), 3);
        Due.is("packing", x.packing(), 0);
        Due.is("car of 3", x.carOf(3), 1);
        x.lean(0, 3, false);
        Due.is("0 leans no more", x.carOf(3), 0);
        BoxcarHouses z = Due.pieces(200, 200, 200);
        Due.is("all in car 1", z.turned(7), 0);
        z.car(0, 1);
        Due.is("packed anew all the same", z.packing(), 0);
        Due.is("all in car 1 then", z.carOf(0), 1);
        BoxcarHouses y = Due.pieces(100, 100);
        y.car(0, 200);
        Due.is("both", y.carOf(1), 0);
        y.stretch(50, 1);
        Due.is("longer, they are not", y.carOf(1), 1);
    }

    private static void twelve() {
        BoxcarHouses x = Due.pieces(200, 200, 200, 200, 200, 200, 200, 200, 200, 200, 200, 200);
        Due.is("600 and 600 do not hold 2400", x.packing(), Due.NONE);
        x.car(0, 3000);
        Due.is("3000 does", x.packing(), 0);
        for (int p = 0; p < 11; p++) {
            x.lean(p, p + 1, true);
        }
        Due.is("turned over, three elsewhere", x.packing(), 36 + 3);
        Due.is("0 is in car 0", x.carOf(0), 0);
        Due.is("11 is in car 1", x.carOf(11), 1);
        x.car(1, 3000);
        Due.is("six and six", x.packing(), 30);
        Due.is("5", x.carOf(5), 0);
        Due.is("6", x.carOf(6), 1);
        Due.is("all in one", x.turned(4095), 66);
        Due.is("a bit too many", x.turned(4096), Due.OUTSIDE);
    }

    private static void anyPacking(int n) {
        BoxcarHouses x = new BoxcarHouses();
        int[] size = new int[n];
        int sum = 0;
        for (int p = 0; p < n; p++) {
            size[p] = Due.any(1, 200);
            sum += size[p];
            x.piece(0, size[p], 0, false);
        }
        for (int i = 0; i < 2 * n; i++) {
            x.lean(Due.any(0, n - 1), Due.any(0, n - 1), true);
        }
        int[] room = {600, 600};
        for (int c = 0; c < 2; c++) {
            if (Due.chance(60)) {
                room[c] = Due.any(1, Math.max(2, sum));
                x.car(c, room[c]);
            }
        }
        int[] order = new int[n];
        for (int i = 0; i < n; i++) {
            order[i] = x.order(i);
        }
        int best = Due.NONE;
        int bestSet = 0;
        for (int code = 0; code < 1 << n; code++) {
            // piece 0 is the highest bit of the code, so that the codes come in the order of the tie
            int set = n == 0 ? 0 : Integer.reverse(code) >>> 32 - n;
            int due = unpacked(size, room, order, set);
            // an object is used for 512 calls at most, so not every set is asked for
            if (n < 8 || Due.chance(8)) {
                Due.is("any turned", x.turned(set), due);
            }
            if (due != Due.NONE && (best == Due.NONE || due < best)) {
                best = due;
                bestSet = set;
            }
        }
        Due.is("any packing", x.packing(), best);
        for (int p = 0; p < n; p++) {
            Due.is("any carOf", x.carOf(p), best == Due.NONE ? Due.NONE : bestSet >> p & 1);
        }
    }

    private static int unpacked(int[] size, int[] room, int[] order, int set) {
        List<List<Integer>> stacks = List.of(new ArrayList<>(), new ArrayList<>());
        int[] load = new int[2];
        for (int p = size.length - 1; p >= 0; p--) {
            int car = set >> p & 1;
            stacks.get(car).add(p);
            load[car] += size[p];
        }
        if (load[0] > room[0] || load[1] > room[1]) {
            return Due.NONE;
        }
        int turned = 0;
        for (int p : order) {
            List<Integer> stack = stacks.get(set >> p & 1);
            int at = stack.indexOf(p);
            turned += stack.size() - 1 - at;
            stack.remove(at);
        }
        return turned;
    }
}
