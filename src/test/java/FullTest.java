/** What is full, for each call that reads it, and the refusal of one more: the last one that there may be is as good as others. */
public final class FullTest {
    public static void main(String[] args) {
        pieces();
        meetings();
        reports();
        months();
        loans();
        terms();
        bytes();
        Due.end();
    }

    private static World pieces(int many) {
        World w = World.empty();
        for (int i = 0; i < many; i++) {
            int p = i;
            w.then(x -> x.piece(p, 10 + p, p % 10, p == 11));
        }
        return w;
    }

    /** Promise 3: "FULL: 12". */
    private static void pieces() {
        pieces(11).answers("Promise 3: the twelfth", 11, x -> x.piece(400, 200, 9, true));
        World w = pieces(12);
        w.refuses("Promise 3: the thirteenth", Due.FULL, x -> x.piece(0, 1, 0, false));
        w.refuses("Promise 3: the thirteenth, place outside", Due.OUTSIDE, x -> x.piece(401, 1, 0, false));
        w.refuses("Promise 3: the thirteenth, length outside", Due.OUTSIDE, x -> x.piece(0, 201, 0, false));
        w.refuses("Promise 3: the thirteenth, level outside", Due.OUTSIDE, x -> x.piece(0, 1, 10, false));
        int[] last = {11, 21, 1, 1};
        for (int i = 0; i < 4; i++) {
            int what = i;
            w.answers("Promise 4: about the last", last[what], x -> x.about(11, what));
            w.refuses("Promise 4: about none", Due.UNKNOWN, x -> x.about(12, what));
        }
        w.answers("Promise 5: the last meets", 0, x -> x.meet(11, 0, 10, 1));
        w.answers("Promise 7: all move", 12, x -> x.mirror());
        w.answers("Promise 8: the first stays, the last moves, the others become longer", 10, x -> x.stretch(11, 1));
        w.answers("Promise 9: the last is across", 111, x -> x.why(12, 1));
        w.answers("Promise 10: the last leans", 0, x -> x.lean(11, 0, true));
        w.answers("Promise 11: the last is the last", 11, x -> x.order(11));
        w.answers("Promise 11: none is behind it", Due.NONE, x -> x.order(12));
        w.answers("Promise 12: the last leans on nothing", 0, x -> x.below(11));
        w.refuses("Promise 12: none leans", Due.UNKNOWN, x -> x.below(12));
        w.answers("Promise 43: twelve", 12, x -> x.count(0));
        boardsAndCars(w);
    }

    private static void boardsAndCars(World pieces) {
        World w = pieces.then(x -> x.sort(0, 21, 9999));
        w.answers("Promise 15: twelve boards", 119988, BoxcarHouses::price);
        w.answers("Promise 16: twelve boards", 12, BoxcarHouses::boards);
        w.answers("Promise 17: the last", 11, x -> x.board(11));
        w.refuses("Promise 17: none", Due.UNKNOWN, x -> x.board(12));
        w.answers("Promise 18: the last", 0, x -> x.ofBoard(11, 1));
        w.answers("Promise 18: the first", 10, x -> x.ofBoard(0, 1));
        w.refuses("Promise 18: none", Due.UNKNOWN, x -> x.ofBoard(12, 1));
        w.answers("Promise 19: the last one with anything left", 9, x -> x.other(1));
        w.answers("Promise 21: nothing is turned over", 0, BoxcarHouses::packing);
        w.answers("Promise 22: the last", 0, x -> x.carOf(11));
        w.answers("Promise 23: all in car 1", 0, x -> x.turned(4095));
        w.refuses("Promise 23: a bit above", Due.OUTSIDE, x -> x.turned(4096));
    }

    /** Promise 5: "FULL: 20". */
    private static void meetings() {
        World w = World.empty().then(x -> x.piece(0, 10, 0, false)).then(x -> x.piece(10, 10, 0, false));
        for (int i = 0; i < 19; i++) {
            w.then(x -> x.meet(0, 1, 1, 0));
        }
        w.answers("Promise 5: the twentieth", 19, x -> x.meet(0, 0, 1, 1));
        w.answers("Promise 6: all twenty hold", Due.NONE, x -> x.meet(0, 1, 1, 0) * 0 + x.apart());
        w.then(x -> x.meet(0, 0, 1, 1));
        w.refuses("Promise 5: the twenty-first", Due.FULL, x -> x.meet(0, 1, 1, 0));
        w.refuses("Promise 5: with itself", Due.STATE, x -> x.meet(1, 1, 1, 1));
        w.refuses("Promise 5: with itself, an end outside", Due.OUTSIDE, x -> x.meet(1, 2, 1, 1));
        w.refuses("Promise 5: with none, an end outside", Due.UNKNOWN, x -> x.meet(2, 2, 2, 1));
        w.answers("Promise 6: only the last is apart", 19, BoxcarHouses::apart);
        w.answers("Promise 7: it is so in a mirror", 19, x -> x.mirror() * 0 + x.apart());
        w.answers("Promise 9: the first would not hold", 200, x -> x.why(10, 1));
        w.answers("Promise 43: twenty", 20, x -> x.count(1));
        World last = World.empty().then(x -> x.piece(0, 10, 0, false)).then(x -> x.piece(10, 10, 0, false));
        for (int i = 0; i < 19; i++) {
            last.then(x -> x.meet(0, 0, 1, 1));
        }
        last.then(x -> x.meet(0, 1, 1, 0));
        last.answers("Promise 9: the last would not hold", 219, x -> x.why(10, 1));
        last.refuses("Promise 8: the last would not hold", Due.STATE, x -> x.stretch(10, 1));
    }

    /** Promise 24: "FULL: 40". */
    private static void reports() {
        World w = World.empty();
        for (int i = 0; i < 39; i++) {
            w.then(x -> x.report(0, 0, 0, 0, false));
        }
        w.answers("Promise 24: the fortieth", 39, x -> x.report(3, 0, 0, 0, true));
        w.then(x -> x.report(3, 0, 0, 0, true));
        w.refuses("Promise 24: the forty-first", Due.FULL, x -> x.report(0, 0, 0, 0, true));
        w.refuses("Promise 24: the forty-first, outside", Due.OUTSIDE, x -> x.report(0, 0, 0, 4, true));
        w.answers("Promise 25: sure is taken", 50, x -> x.sure(0));
        w.answers("Promise 26: all but the last", 39, x -> x.explains(0, false));
        w.answers("Promise 26: all", 40, x -> x.explains(4, false));
        w.answers("Promise 26: the last is bad", 1, x -> x.explains(4, true));
        w.answers("Promise 27: its mill", 1, x -> x.likely(3));
        w.answers("Promise 27: not its wood", 0, x -> x.likely(4));
        w.answers("Promise 28: its mill alone", 1, BoxcarHouses::causes);
        w.answers("Promise 29: its mill", 3, x -> x.cause(0));
        w.answers("Promise 43: forty", 40, x -> x.count(2));
        World bad = World.empty();
        for (int i = 0; i < 40; i++) {
            bad.then(x -> x.report(1, 2, 3, 0, true));
        }
        bad.answers("Promise 26: forty bad ones", 40, x -> x.explains(11, true));
        bad.answers("Promise 27: they are all, SURE being 100", 1, x -> x.sure(100) * 0 + x.likely(11));
        bad.answers("Promise 28: one covers them", 1, BoxcarHouses::causes);
    }

    /** Promise 30: "FULL: above 599". */
    private static void months() {
        for (int n = 1; n <= 60; n++) {
            int many = n;
            World just = World.empty().then(x -> x.loan(100, 50, 1)).pass(599 - n);
            just.answers("Promise 30: to 599", 599, x -> x.pass(many));
            if (n < 60) {
                just.refuses("Promise 30: to 600", Due.FULL, x -> x.pass(many + 1));
            }
        }
        World last = World.empty().then(x -> x.loan(100, 0, 1)).pass(599);
        last.refuses("Promise 30: none is behind the last", Due.FULL, x -> x.pass(1));
        last.refuses("Promise 30: nor 60", Due.FULL, x -> x.pass(60));
        last.refuses("Promise 30: 0 is outside", Due.OUTSIDE, x -> x.pass(0));
        last.refuses("Promise 30: 61 is outside", Due.OUTSIDE, x -> x.pass(61));
        last.answers("Promise 31: a loan in the last month", 1, x -> x.loan(1, 0, 1));
        last.answers("Promise 32: to pay in it", 100, x -> x.pay(0, 100));
        last.answers("Promise 34: as of it", 100, x -> x.as(0, 599, 0));
        last.refuses("Promise 34: none is behind it", Due.OUTSIDE, x -> x.as(0, 600, 0));
        last.answers("Promise 43: the last month", 599, x -> x.count(6));
    }

    /** Promise 31: "FULL: 8". */
    private static void loans() {
        World w = World.empty().then(x -> x.term(0)).then(x -> x.feed(0, Due.packed("m>0", 0)));
        for (int i = 0; i < 7; i++) {
            w.then(x -> x.loan(1000, 0, 10));
        }
        w.answers("Promise 31: the eighth", 7, x -> x.loan(100000, 50, 10000));
        w.then(x -> x.loan(100000, 50, 10000));
        w.refuses("Promise 31: the ninth", Due.FULL, x -> x.loan(1, 0, 1));
        w.refuses("Promise 31: the ninth, sum outside", Due.OUTSIDE, x -> x.loan(0, 0, 1));
        w.refuses("Promise 31: the ninth, rate outside", Due.OUTSIDE, x -> x.loan(1, 51, 1));
        w.refuses("Promise 31: the ninth, part outside", Due.OUTSIDE, x -> x.loan(1, 0, 10001));
        w.then(x -> x.pass(1));
        w.answers("Promise 34: all grow, the last too", 105000, x -> x.as(7, 1, 0));
        w.answers("Promise 35: the last", 1, x -> x.arrears(7));
        w.answers("Promise 40: the last", 1, x -> x.may(7));
        w.answers("Promise 41: the last", 105000, x -> x.takeBack(7));
        w.answers("Promise 42: the last", 0, x -> x.soon(7));
        w.answers("Promise 33: the last", 1, x -> x.work(7, false));
        w.answers("Promise 32: the last", 100000, x -> x.pay(7, 100000));
        w.answers("Promise 43: eight", 8, x -> x.count(3));
        w.answers("Promise 43: eight open", 8, x -> x.count(4));
        World closed = w.then(x -> x.pay(0, 1000)).then(x -> x.takeBack(7));
        closed.refuses("Promise 31: loans that are closed are loans", Due.FULL, x -> x.loan(1, 0, 1));
        closed.answers("Promise 43: eight still", 8, x -> x.count(3));
        closed.answers("Promise 43: six open", 6, x -> x.count(4));
        for (int i = 7; i < 9; i++) {
            int l = i;
            int unknown = i == 8 ? 1 : 0;
            Due.is("Promises 32 to 35, 40 to 42: loan " + l, asked(closed, l), unknown * 7);
        }
    }

    /** How many of the calls say that there is no such loan. */
    private static int asked(World w, int l) {
        int unknown = 0;
        World.Call[] calls = {x -> x.pay(l, 1), x -> x.work(l, true), x -> x.as(l, 0, 0), x -> x.arrears(l), x -> x.may(l),
            x -> x.takeBack(l), x -> x.soon(l)};
        for (World.Call call : calls) {
            unknown += call.on(w.make()) == Due.UNKNOWN ? 1 : 0;
        }
        return unknown;
    }

    /** Promise 36: "FULL: 4". */
    private static void terms() {
        World w = World.empty().then(x -> x.term(0)).then(x -> x.term(1)).then(x -> x.term(2));
        w.answers("Promise 36: the fourth", 3, x -> x.term(599));
        w.then(x -> x.term(599));
        w.refuses("Promise 36: the fifth", Due.FULL, x -> x.term(0));
        w.refuses("Promise 36: the fifth, outside", Due.OUTSIDE, x -> x.term(600));
        w.answers("Promise 37: the last", 3, x -> x.feed(3, Due.packed("m>0", 0)));
        w.refuses("Promise 37: none", Due.UNKNOWN, x -> x.feed(4, Due.packed("m>0", 0)));
        w.answers("Promise 38: the last", 0, x -> x.fault(3));
        w.refuses("Promise 38: none", Due.UNKNOWN, x -> x.fault(4));
        w.then(x -> x.feed(3, Due.packed("m>0", 0)));
        w.answers("Promise 39: the last", 3, x -> x.force(599));
        w.answers("Promise 39: ahead of it none", Due.NONE, x -> x.force(598));
        w.answers("Promise 43: four", 4, x -> x.count(5));
    }

    /** Promise 37: "FULL: they do not all fit (none comes)", of 60 bytes at most. */
    private static void bytes() {
        for (int had = 52; had <= 60; had++) {
            World w = World.empty().then(x -> x.term(0)).then(x -> x.feed(0, Due.packed("o>0", 0)));
            for (int at = 3; at < had; at += 8) {
                long blanks = Due.packed(" ".repeat(Math.min(8, had - at)), 0);
                w.then(x -> x.feed(0, blanks));
            }
            for (int more = 0; more <= 8; more++) {
                long blanks = Due.packed(" ".repeat(more), 0);
                int size = had + more;
                if (size <= 60) {
                    w.answers("Promise 37: " + had + " and " + more + " bytes", size, x -> x.feed(0, blanks));
                    w.answers("Promise 38: it is whole at " + size, Due.NONE, x -> x.feed(0, blanks) * 0 + x.fault(0));
                } else {
                    w.refuses("Promise 37: " + had + " and " + more + " bytes", Due.FULL, x -> x.feed(0, blanks));
                }
            }
            w.answers("Promise 39: it is in force", 0, x -> x.force(0));
            w.answers("Promise 40: it says so", 1, x -> x.loan(1, 0, 1) + x.may(0));
            w.answers("Promise 37: a byte 0 and bytes behind it take no room", had, x -> x.feed(0, 0x2020202020202000L));
        }
    }
}
