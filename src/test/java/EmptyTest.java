/** What is empty, for each call that reads it: no pieces, no boards, no reports, no loans, no terms, a term without bytes. */
public final class EmptyTest {
    private static final World NEW = World.empty();

    public static void main(String[] args) {
        newObject();
        noPieces();
        noMeetings();
        noLeaning();
        noBoards();
        noPiecesToCut();
        noCars();
        noReports();
        noneBad();
        noLoans();
        noneOpen();
        noTerms();
        noBytes();
        Due.end();
    }

    /** Promise 1: "WIDTH 100; no PIECES, no boards, no LOANS; MONTH 0", and what the terms say is so at first. */
    private static void newObject() {
        int[] due = {0, 0, 0, 0, 0, 0, 0, 100};
        for (int i = 0; i < 8; i++) {
            int what = i;
            NEW.answers("Promise 1: count(" + what + ")", due[what], x -> x.count(what));
        }
        NEW.answers("Promise 1: WIDTH 100 at first", 100, x -> x.width(1));
        for (int i = 0; i < 4; i++) {
            int s = i;
            NEW.answers("Promise 1: no boards of sort " + s, 0, x -> x.sort(s, 400, 9999));
        }
        NEW.answers("Promise 1: the saw loses 1 at first", 1, x -> x.saw(9));
        NEW.answers("Promise 1: car 0 holds 600 at first", 600, x -> x.car(0, 1));
        NEW.answers("Promise 1: car 1 holds 600 at first", 600, x -> x.car(1, 1));
        NEW.answers("Promise 1: SURE 50 at first", 50, x -> x.sure(0));
    }

    private static void noPieces() {
        NEW.refuses("Promise 4: about of no pieces", Due.UNKNOWN, x -> x.about(0, 0));
        NEW.refuses("Promise 4: about, what outside too", Due.UNKNOWN, x -> x.about(0, 4));
        NEW.refuses("Promise 5: meet of no pieces", Due.UNKNOWN, x -> x.meet(0, 0, 1, 0));
        NEW.refuses("Promise 5: meet of one that is none", Due.UNKNOWN, x -> x.meet(0, 2, 0, 2));
        NEW.answers("Promise 7: mirror of no pieces", 0, BoxcarHouses::mirror);
        NEW.answers("Promise 8: stretch of no pieces", 0, x -> x.stretch(50, 100));
        NEW.answers("Promise 8: the width grows all the same", 200, x -> x.stretch(100, 100) + x.count(7));
        NEW.answers("Promise 9: why of no pieces", 0, x -> x.why(50, 100));
        NEW.refuses("Promise 10: lean of no pieces", Due.UNKNOWN, x -> x.lean(0, 0, true));
        NEW.refuses("Promise 10: not to lean, of no pieces", Due.UNKNOWN, x -> x.lean(0, 1, false));
        NEW.answers("Promise 11: order of no pieces", Due.NONE, x -> x.order(0));
        NEW.refuses("Promise 12: below of no pieces", Due.UNKNOWN, x -> x.below(0));
        NEW.refuses("Promise 17: board of no pieces", Due.UNKNOWN, x -> x.board(0));
        NEW.refuses("Promise 22: carOf of no pieces", Due.UNKNOWN, x -> x.carOf(0));
    }

    private static void noMeetings() {
        NEW.answers("Promise 6: apart without pieces", Due.NONE, BoxcarHouses::apart);
        World two = World.empty().then(x -> x.piece(0, 10, 0, false)).then(x -> x.piece(10, 10, 0, false));
        two.answers("Promise 6: apart without meetings", Due.NONE, BoxcarHouses::apart);
        two.answers("Promise 9: without meetings none hinders", 0, x -> x.why(10, 1));
        two.answers("Promise 43: no meetings", 0, x -> x.count(1));
    }

    private static void noLeaning() {
        World two = World.empty().then(x -> x.piece(0, 10, 0, false)).then(x -> x.piece(10, 10, 0, false));
        two.answers("Promise 12: it leans on nothing", 0, x -> x.below(0));
        two.answers("Promise 11: the least is first", 0, x -> x.order(0));
        two.answers("Promise 10: it did not lean", 0, x -> x.lean(0, 1, false));
    }

    private static void noBoards() {
        World one = World.empty().then(x -> x.piece(0, 1, 0, false));
        one.answers("Promise 15: no sort of boards", Due.NONE, BoxcarHouses::price);
        one.answers("Promise 16: no sort of boards", Due.NONE, BoxcarHouses::boards);
        one.answers("Promise 17: no sort of boards", Due.NONE, x -> x.board(0));
        one.refuses("Promise 17: nor such a piece", Due.UNKNOWN, x -> x.board(1));
        one.refuses("Promise 18: no board", Due.UNKNOWN, x -> x.ofBoard(0, 0));
        one.refuses("Promise 18: no board, what outside too", Due.UNKNOWN, x -> x.ofBoard(0, 2));
        one.answers("Promise 19: no board", Due.NONE, x -> x.other(1));
        one.refuses("Promise 19: no board, length outside too", Due.OUTSIDE, x -> x.other(0));
    }

    private static void noPiecesToCut() {
        World[] worlds = {World.empty(), World.empty().then(x -> x.sort(0, 400, 9999))};
        for (World w : worlds) {
            w.answers("Promise 15: 0: there are no PIECES", 0, BoxcarHouses::price);
            w.answers("Promise 16: none is taken", 0, BoxcarHouses::boards);
            w.refuses("Promise 17: no piece", Due.UNKNOWN, x -> x.board(0));
            w.refuses("Promise 18: no board", Due.UNKNOWN, x -> x.ofBoard(0, 1));
            w.answers("Promise 19: no board", Due.NONE, x -> x.other(1));
        }
    }

    private static void noCars() {
        NEW.answers("Promise 21: nothing is turned over", 0, BoxcarHouses::packing);
        NEW.answers("Promise 23: nothing in car 1", 0, x -> x.turned(0));
        NEW.refuses("Promise 23: bit 0 is no piece", Due.OUTSIDE, x -> x.turned(1));
        NEW.refuses("Promise 23: all bits are none", Due.OUTSIDE, x -> x.turned(-1));
        World small = World.empty().then(x -> x.car(0, 1)).then(x -> x.car(1, 1));
        small.answers("Promise 21: the least cars hold nothing", 0, BoxcarHouses::packing);
    }

    private static void noReports() {
        for (int i = 0; i < 16; i++) {
            int c = i;
            NEW.answers("Promise 26: no reports", 0, x -> x.explains(c, false));
            NEW.answers("Promise 26: no bad ones", 0, x -> x.explains(c, true));
            NEW.answers("Promise 27: none is likely", 0, x -> x.likely(c));
            NEW.answers("Promise 27: none is, SURE being 0", 0, x -> x.sure(0) * 0 + x.likely(c));
        }
        NEW.answers("Promise 28: 0: nothing is BAD", 0, BoxcarHouses::causes);
        NEW.answers("Promise 29: there is none", Due.NONE, x -> x.cause(0));
    }

    private static void noneBad() {
        World good = World.empty().then(x -> x.sure(0)).then(x -> x.report(0, 0, 0, 0, false)).then(x -> x.report(3, 3, 3, 3, false));
        good.answers("Promise 26: one has it", 1, x -> x.explains(15, false));
        good.answers("Promise 26: none is bad", 0, x -> x.explains(15, true));
        good.answers("Promise 27: none is likely", 0, x -> x.likely(15));
        good.answers("Promise 28: 0: nothing is BAD", 0, BoxcarHouses::causes);
        good.answers("Promise 29: there is none", Due.NONE, x -> x.cause(0));
    }

    private static void noLoans() {
        NEW.answers("Promise 30: months go by without loans", 60, x -> x.pass(60));
        NEW.refuses("Promise 32: no loan", Due.UNKNOWN, x -> x.pay(0, 1));
        NEW.refuses("Promise 32: no loan, pay outside too", Due.UNKNOWN, x -> x.pay(0, 0));
        NEW.refuses("Promise 33: no loan", Due.UNKNOWN, x -> x.work(0, false));
        NEW.refuses("Promise 34: no loan", Due.UNKNOWN, x -> x.as(0, 0, 0));
        NEW.refuses("Promise 34: no loan, month and what outside too", Due.UNKNOWN, x -> x.as(0, 1, 3));
        NEW.refuses("Promise 35: no loan", Due.UNKNOWN, x -> x.arrears(0));
        NEW.refuses("Promise 40: no loan", Due.UNKNOWN, x -> x.may(0));
        NEW.refuses("Promise 41: no loan", Due.UNKNOWN, x -> x.takeBack(0));
        NEW.refuses("Promise 42: no loan", Due.UNKNOWN, x -> x.soon(0));
    }

    private static void noneOpen() {
        World paid = World.empty().then(x -> x.loan(1, 50, 1)).then(x -> x.pay(0, 1));
        paid.answers("Promise 43: one loan", 1, x -> x.count(3));
        paid.answers("Promise 43: none is open", 0, x -> x.count(4));
        paid.answers("Promise 30: nothing grows", 0, x -> x.pass(60) * 0 + x.as(0, 60, 0));
        paid.answers("Promise 35: no arrears", 0, x -> x.pass(60) * 0 + x.arrears(0));
    }

    private static void noTerms() {
        World loan = World.empty().then(x -> x.loan(100, 50, 10)).then(x -> x.work(0, false)).then(x -> x.pass(60));
        NEW.refuses("Promise 37: no term", Due.UNKNOWN, x -> x.feed(0, 'a'));
        NEW.refuses("Promise 37: no term, no bytes", Due.UNKNOWN, x -> x.feed(0, 0L));
        NEW.refuses("Promise 38: no term", Due.UNKNOWN, x -> x.fault(0));
        NEW.answers("Promise 39: none in the first month", Due.NONE, x -> x.force(0));
        NEW.answers("Promise 39: none in the last", Due.NONE, x -> x.force(599));
        loan.answers("Promise 40: none: never", 0, x -> x.may(0));
        loan.refuses("Promise 41: none: never", Due.STATE, x -> x.takeBack(0));
        loan.answers("Promise 42: none: never", Due.NONE, x -> x.soon(0));
    }

    private static void noBytes() {
        World loan = World.empty().then(x -> x.loan(100, 50, 10)).then(x -> x.term(0)).then(x -> x.pass(60));
        loan.answers("Promise 38: 0 without bytes", 0, x -> x.fault(0));
        loan.answers("Promise 37: no bytes come", 0, x -> x.feed(0, 0L));
        loan.answers("Promise 38: and 0 still", 0, x -> x.feed(0, 0L) + x.fault(0));
        loan.answers("Promise 39: it is not in force", Due.NONE, x -> x.force(0));
        loan.answers("Promise 40: it says nothing", 0, x -> x.may(0));
        loan.refuses("Promise 41: it says nothing", Due.STATE, x -> x.takeBack(0));
        loan.answers("Promise 42: it says nothing", Due.NONE, x -> x.soon(0));
        loan.answers("Promise 43: it is a term", 1, x -> x.count(5));
    }
}
