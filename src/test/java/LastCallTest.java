import java.util.ArrayList;
import java.util.List;

/** "An object is used for at most 512 calls": the 512th is answered as any other, whatever calls came ahead of it. */
public final class LastCallTest {
    private static final int MOST_CALLS = 512;

    public static void main(String[] args) {
        for (World w : new World[] {World.empty(), World.some(), World.full()}) {
            for (World.Call last : everyCall()) {
                behindManyCalls(w, last);
            }
        }
        alwaysANewCut();
        alwaysANewPacking();
        alwaysNewCauses();
        alwaysALook();
        Due.end();
    }

    /** One of each call of the face, such as is not refused in a world with something of everything. */
    private static List<World.Call> everyCall() {
        List<World.Call> all = new ArrayList<>(List.of(x -> x.width(77), x -> x.piece(1, 2, 3, true), x -> x.about(0, 1),
            x -> x.meet(0, 0, 1, 0), BoxcarHouses::apart, BoxcarHouses::mirror, x -> x.stretch(80, 3), x -> x.why(30, 4)));
        all.addAll(List.of(x -> x.lean(0, 1, true), x -> x.order(2), x -> x.below(0), x -> x.sort(1, 200, 5), x -> x.saw(4),
            BoxcarHouses::price, BoxcarHouses::boards, x -> x.board(1), x -> x.ofBoard(0, 1), x -> x.other(2)));
        all.addAll(List.of(x -> x.car(0, 70), BoxcarHouses::packing, x -> x.carOf(2), x -> x.turned(3),
            x -> x.report(1, 2, 3, 0, true), x -> x.sure(90), x -> x.explains(1, true), x -> x.likely(2), BoxcarHouses::causes,
            x -> x.cause(1)));
        all.addAll(List.of(x -> x.pass(7), x -> x.loan(10, 20, 30), x -> x.pay(0, 5), x -> x.work(0, false), x -> x.as(0, 3, 1)));
        all.addAll(List.of(x -> x.arrears(0), x -> x.term(9), x -> x.feed(0, '1'), x -> x.fault(0), x -> x.force(30), x -> x.may(0),
            x -> x.takeBack(0), x -> x.soon(0), x -> x.count(4)));
        Due.is("every call of the face", all.size(), 42);
        return all;
    }

    private static void behindManyCalls(World w, World.Call last) {
        List<World.Call> nothingNew = List.of(BoxcarHouses::price, x -> x.width(0), BoxcarHouses::packing, x -> x.piece(-1, 1, 1, true),
            BoxcarHouses::causes, x -> x.pass(61), x -> x.soon(0), x -> x.feed(0, 0L), x -> x.sort(4, 1, 1));
        BoxcarHouses x = w.make();
        for (int done = w.size(); done < MOST_CALLS - 1; done++) {
            nothingNew.get(done % nothingNew.size()).on(x);
        }
        Due.is("the 512th call", last.on(x), last.on(w.make()));
    }

    /** Twelve pieces, and the saw changed ahead of each look at the cut. */
    private static void alwaysANewCut() {
        BoxcarHouses x = Due.pieces(33, 33, 33, 33, 33, 33, 33, 33, 33, 33, 33, 33);
        x.sort(0, 100, 5);
        for (int calls = 13; calls + 2 <= MOST_CALLS; calls += 2) {
            int loss = calls / 2 % 2;
            x.saw(loss);
            Due.is("Promise 15: loss " + loss, x.price(), loss == 0 ? 20 : 30);
        }
    }

    /** Twelve pieces, and a lean changed ahead of each look at the packing. */
    private static void alwaysANewPacking() {
        BoxcarHouses x = Due.pieces(100, 100, 100, 100, 100, 100, 100, 100, 100, 100, 100, 100);
        for (int calls = 12; calls + 2 <= MOST_CALLS; calls += 2) {
            boolean leans = calls / 2 % 2 == 0;
            Due.is("Promise 10: as it was", x.lean(0, 1, leans), calls == 12 || leans ? 0 : 1);
            Due.is("Promise 22: apart from 0, if 0 leans on it", x.carOf(1), leans ? 1 : 0);
        }
    }

    private static void alwaysNewCauses() {
        BoxcarHouses x = new BoxcarHouses();
        for (int r = 0; r < 40; r++) {
            x.report(r & 3, r >> 2 & 3, r * 7 & 3, r * 5 >> 1 & 3, true);
        }
        for (int calls = 40; calls + 2 <= MOST_CALLS; calls += 2) {
            x.sure(calls % 101);
            Due.is("Promise 28: all of one kind", x.causes(), 4);
        }
    }

    /** Loans and terms as they grow, looked at until the calls are used up. */
    private static void alwaysALook() {
        BoxcarHouses x = new BoxcarHouses();
        x.term(0);
        x.feed(0, Due.packed("m>150", 0));
        x.loan(1, 0, 1);
        for (int calls = 3; calls + 3 <= MOST_CALLS; calls += 3) {
            int month = (calls - 3) / 3 + 1;
            Due.is("Promise 30: the month", x.pass(1), month);
            int left = Math.max(0, 151 - month);
            Due.is("Promise 42: in 120 at most", x.soon(0), left <= 120 ? left : Due.NONE);
            Due.is("Promise 34: it is open", x.as(0, month, 2), 1);
        }
    }
}
