/** Promises 30 to 35 and 40 to 43: each sentence that names a limit, at it, just inside and just outside. */
public final class LoanEdgesTest {
    public static void main(String[] args) {
        passTaken();
        passAtOnce();
        loanTaken();
        loanRefused();
        interestIsCut();
        dueIsNotAboveOwed();
        payTaken();
        payRefused();
        payAll();
        payDue();
        payMoreThanEver();
        workTaken();
        asMonths();
        asRefused();
        asOfTheFirst();
        asOfTheEnd();
        arrearsAreCut();
        mayIfOpen();
        mayFromAMonthOn();
        takeBackTellsLongs();
        takeBackAndTheRest();
        soonIn120();
        soonTill599();
        soonByTermInForce();
        soonNotOpen();
        countTaken();
        Due.end();
    }

    private static World loan(int sum, int rate, int part) {
        return World.empty().then(x -> x.loan(sum, rate, part));
    }

    /** Promise 30: "n MONTHS go by (1 to 60): THE MONTH". */
    private static void passTaken() {
        for (int n : new int[] {1, 2, 59, 60}) {
            World.empty().answers("Promise 30: pass(" + n + ")", n, x -> x.pass(n));
            World.empty().answers("Promise 43: THE MONTH", n, x -> x.pass(n) * 0 + x.count(6));
        }
        for (int n : new int[] {Integer.MIN_VALUE, -1, 0, 61, Integer.MAX_VALUE}) {
            World.some().refuses("Promise 30: pass(" + n + ")", Due.OUTSIDE, x -> x.pass(n));
        }
        World near = loan(100, 50, 7).pass(598);
        near.answers("Promise 30: to 599", 599, x -> x.pass(1));
        near.refuses("Promise 30: above 599", Due.FULL, x -> x.pass(2));
        near.refuses("Promise 30: far above 599", Due.FULL, x -> x.pass(60));
        near.refuses("Promise 30: outside goes ahead", Due.OUTSIDE, x -> x.pass(61));
        near.refuses("Promise 30: the greatest int is outside", Due.OUTSIDE, x -> x.pass(Integer.MAX_VALUE));
    }

    /** n months at once are n times one month. */
    private static void passAtOnce() {
        World w = loan(977, 37, 211);
        for (int i = 1; i <= 60; i++) {
            int n = i;
            BoxcarHouses one = w.make();
            for (int k = 0; k < n; k++) {
                one.pass(1);
            }
            w.answers("Promise 30: owed behind " + n, one.as(0, n, 0), x -> x.pass(n) * 0 + x.as(0, n, 0));
            w.answers("Promise 30: due behind " + n, one.as(0, n, 1), x -> x.pass(n) * 0 + x.as(0, n, 1));
            w.answers("Promise 34: a month between", one.as(0, n - 1, 0), x -> x.pass(n) * 0 + x.as(0, n - 1, 0));
        }
    }

    /** Promise 31: "a SUM (1 to 100000), a RATE (0 to 50), a PART (1 to 10000)". */
    private static void loanTaken() {
        for (int sum : new int[] {1, 2, 99999, 100000}) {
            loan(sum, 0, 1).answers("Promise 31: sum " + sum, sum, x -> x.as(0, 0, 0));
        }
        int[][] rates = {{0, 100000}, {1, 100100}, {49, 104900}, {50, 105000}};
        for (int[] row : rates) {
            loan(100000, row[0], 1).answers("Promise 31: rate " + row[0], row[1], x -> x.pass(1) * 0 + x.as(0, 1, 0));
        }
        for (int part : new int[] {1, 2, 9999, 10000}) {
            loan(100000, 0, part).answers("Promise 31: part " + part, part, x -> x.pass(1) * 0 + x.as(0, 1, 1));
        }
        loan(1, 0, 1).answers("Promise 31: nothing is due in its first month", 0, x -> x.as(0, 0, 1));
        loan(1, 0, 1).answers("Promise 31: it is open", 1, x -> x.as(0, 0, 2));
    }

    private static void loanRefused() {
        World w = loan(500, 5, 50);
        for (int v : new int[] {Integer.MIN_VALUE, -1, 0, 100001, Integer.MAX_VALUE}) {
            w.refuses("Promise 31: sum " + v, Due.OUTSIDE, x -> x.loan(v, 0, 1));
        }
        for (int v : new int[] {Integer.MIN_VALUE, -1, 51, Integer.MAX_VALUE}) {
            w.refuses("Promise 31: rate " + v, Due.OUTSIDE, x -> x.loan(1, v, 1));
        }
        for (int v : new int[] {Integer.MIN_VALUE, -1, 0, 10001, Integer.MAX_VALUE}) {
            w.refuses("Promise 31: part " + v, Due.OUTSIDE, x -> x.loan(1, 0, v));
        }
    }

    /** "INTEREST is what is OWED times RATE by 1000, cut". */
    private static void interestIsCut() {
        int[][] rows = {{19, 50, 19}, {20, 50, 21}, {39, 50, 40}, {40, 50, 42}, {999, 1, 999}, {1000, 1, 1001}, {1001, 1, 1002},
            {1999, 1, 2000}, {2000, 1, 2002}, {1, 50, 1}, {1, 0, 1}, {100000, 50, 105000}, {99999, 50, 104998}};
        for (int[] row : rows) {
            World w = loan(row[0], row[1], 1);
            w.answers("Promise 30: " + row[0] + " at " + row[1], row[2], x -> x.pass(1) * 0 + x.as(0, 1, 0));
        }
        loan(1, 50, 1).answers("Promise 30: cut each month it never grows", 1, x -> x.pass(60) * 0 + x.as(0, 60, 0));
    }

    /** "DUE grows by PART, if anything is OWED (what is DUE is never above what is OWED)". */
    private static void dueIsNotAboveOwed() {
        int[][] rows = {{100, 99, 99}, {100, 100, 100}, {100, 101, 100}, {1, 10000, 1}, {1, 1, 1}};
        for (int[] row : rows) {
            World w = loan(row[0], 0, row[1]);
            w.answers("Promise 30: part " + row[1] + " of " + row[0], row[2], x -> x.pass(1) * 0 + x.as(0, 1, 1));
            w.answers("Promise 30: then all", row[0], x -> x.pass(2) * 0 + x.as(0, 2, 1));
        }
        loan(1000, 50, 1050).answers("Promise 30: with interest just so", 1050, x -> x.pass(1) * 0 + x.as(0, 1, 1));
        loan(1000, 50, 1051).answers("Promise 30: with interest, one more", 1050, x -> x.pass(1) * 0 + x.as(0, 1, 1));
    }

    /** Promise 32: "TO PAY (1 to 100000)". */
    private static void payTaken() {
        World w = loan(100000, 50, 10000).pass(1);
        for (int v : new int[] {1, 2, 99999, 100000}) {
            w.answers("Promise 32: pay(0, " + v + ")", v, x -> x.pay(0, v));
            w.answers("Promise 32: less is owed", 105000 - v, x -> x.pay(0, v) * 0 + x.as(0, 1, 0));
            w.answers("Promise 32: less is due", Math.max(0, 10000 - v), x -> x.pay(0, v) * 0 + x.as(0, 1, 1));
        }
    }

    /** Promise 32: UNKNOWN ahead of OUTSIDE ahead of STATE. */
    private static void payRefused() {
        World w = loan(100, 0, 10).then(x -> x.loan(5, 0, 1)).then(x -> x.pay(1, 5));
        for (int v : new int[] {Integer.MIN_VALUE, -1, 0, 100001, Integer.MAX_VALUE}) {
            w.refuses("Promise 32: pay(0, " + v + ")", Due.OUTSIDE, x -> x.pay(0, v));
            w.refuses("Promise 32: of one paid off pay(1, " + v + ")", Due.OUTSIDE, x -> x.pay(1, v));
            w.refuses("Promise 32: of none pay(2, " + v + ")", Due.UNKNOWN, x -> x.pay(2, v));
        }
        w.refuses("Promise 32: paid off", Due.STATE, x -> x.pay(1, 1));
        w.refuses("Promise 32: paid off, the most", Due.STATE, x -> x.pay(1, 100000));
        w.refuses("Promise 32: none", Due.UNKNOWN, x -> x.pay(2, 1));
        w.refuses("Promise 32: below the first", Due.UNKNOWN, x -> x.pay(-1, 1));
        w.term(0, 0, "m=0").then(x -> x.takeBack(0)).refuses("Promise 32: taken back", Due.STATE, x -> x.pay(0, 1));
    }

    /** "what is more than OWED is not taken. It is PAID OFF when nothing is OWED." */
    private static void payAll() {
        int[][] rows = {{99, 99, 1, 1}, {100, 100, 0, 2}, {101, 100, 0, 2}, {100000, 100, 0, 2}};
        for (int[] row : rows) {
            World w = loan(100, 0, 10);
            w.answers("Promise 32: taken of " + row[0], row[1], x -> x.pay(0, row[0]));
            w.answers("Promise 34: owed behind " + row[0], row[2], x -> x.pay(0, row[0]) * 0 + x.as(0, 0, 0));
            w.answers("Promise 34: how it is behind " + row[0], row[3], x -> x.pay(0, row[0]) * 0 + x.as(0, 0, 2));
            w.answers("Promise 43: open ones behind " + row[0], row[3] == 1 ? 1 : 0, x -> x.pay(0, row[0]) * 0 + x.count(4));
        }
        loan(100000, 50, 1).answers("Promise 32: the most at once", 2, x -> x.pay(0, 100000) * 0 + x.as(0, 0, 2));
        loan(1, 0, 1).answers("Promise 32: the least", 1, x -> x.pay(0, 1));
    }

    /** "OWED and DUE become less, 0 at least". */
    private static void payDue() {
        int[][] rows = {{1, 39}, {39, 1}, {40, 0}, {41, 0}, {999, 0}};
        for (int[] row : rows) {
            World w = loan(1000, 0, 20).pass(2);
            w.answers("Promise 34: due behind " + row[0], row[1], x -> x.pay(0, row[0]) * 0 + x.as(0, 2, 1));
            w.answers("Promise 34: owed behind " + row[0], 1000 - row[0], x -> x.pay(0, row[0]) * 0 + x.as(0, 2, 0));
        }
        World ahead = loan(100, 0, 20).then(x -> x.pay(0, 50));
        ahead.answers("Promise 32: what was paid ahead is no credit", 20, x -> x.pass(1) * 0 + x.as(0, 1, 1));
        World all = loan(100, 0, 60).pass(2);
        all.answers("Promise 32: all is due", 100, x -> x.as(0, 2, 1));
        all.answers("Promise 32: due is no more than what is owed", 1, x -> x.pay(0, 99) * 0 + x.as(0, 2, 1));
    }

    /** More is owed than can be paid at once, and than an int holds. */
    private static void payMoreThanEver() {
        World w = loan(100000, 50, 10000).pass(599);
        long owed = w.make().as(0, 599, 0);
        Due.truth("Promise 34: it is above the ints", owed > Integer.MAX_VALUE);
        w.answers("Promise 32: the most", 100000, x -> x.pay(0, 100000));
        w.answers("Promise 32: so much less", owed - 100000, x -> x.pay(0, 100000) * 0 + x.as(0, 599, 0));
        w.answers("Promise 32: open", 1, x -> x.pay(0, 100000) * 0 + x.as(0, 599, 2));
    }

    /** Promise 33. */
    private static void workTaken() {
        World w = loan(5, 0, 1).then(x -> x.loan(5, 0, 1));
        w.answers("Promise 33: has at first", 1, x -> x.work(1, false));
        w.answers("Promise 33: has not", 0, x -> x.work(1, false) * 0 + x.work(1, true));
        w.answers("Promise 33: the other has", 1, x -> x.work(1, false) * 0 + x.work(0, true));
        w.answers("Promise 33: a new one has", 1, x -> x.work(1, false) * 0 + x.loan(5, 0, 1) * 0 + x.work(2, true));
        for (int l : new int[] {Integer.MIN_VALUE, -1, 2, 8, Integer.MAX_VALUE}) {
            w.refuses("Promise 33: work(" + l + ")", Due.UNKNOWN, x -> x.work(l, false));
        }
        World back = loan(5, 0, 1).term(0, 0, "w=1").then(x -> x.takeBack(0));
        back.answers("Promise 33: of one that is taken back", 1, x -> x.work(0, false));
    }

    /** Promise 34: "AS OF a MONTH (0 to THE MONTH)". */
    private static void asMonths() {
        for (int now : new int[] {0, 1, 2, 300, 598, 599}) {
            World w = loan(1000, 0, 1).pass(now);
            w.answers("Promise 34: the first month", 1000, x -> x.as(0, 0, 0));
            w.answers("Promise 34: THE MONTH " + now, now, x -> x.as(0, now, 1));
            w.refuses("Promise 34: behind THE MONTH " + now, Due.OUTSIDE, x -> x.as(0, now + 1, 0));
            w.refuses("Promise 34: below 0", Due.OUTSIDE, x -> x.as(0, -1, 0));
            w.refuses("Promise 34: the least int", Due.OUTSIDE, x -> x.as(0, Integer.MIN_VALUE, 0));
            w.refuses("Promise 34: the greatest int", Due.OUTSIDE, x -> x.as(0, Integer.MAX_VALUE, 0));
            if (now > 0) {
                w.answers("Promise 34: ahead of THE MONTH " + now, now - 1, x -> x.as(0, now - 1, 1));
            }
        }
    }

    /** Promise 34: UNKNOWN ahead of OUTSIDE; told as longs. */
    private static void asRefused() {
        World w = loan(1000, 0, 1);
        for (int what : new int[] {Integer.MIN_VALUE, -1, 3, Integer.MAX_VALUE}) {
            w.refuses("Promise 34: what " + what, Due.OUTSIDE, x -> x.as(0, 0, what));
            w.refuses("Promise 34: what " + what + " of none", Due.UNKNOWN, x -> x.as(1, 0, what));
        }
        w.refuses("Promise 34: none", Due.UNKNOWN, x -> x.as(1, 0, 0));
        w.refuses("Promise 34: none, and the month outside", Due.UNKNOWN, x -> x.as(1, 1, 0));
        w.refuses("Promise 34: below the first", Due.UNKNOWN, x -> x.as(-1, 0, 0));
    }

    /** "0 not told yet": nothing is owed nor due ahead of the month of the loan. */
    private static void asOfTheFirst() {
        World w = World.empty().pass(5).then(x -> x.loan(70, 0, 7)).pass(1);
        int[][] due = {{0, 0, 0, 0}, {4, 0, 0, 0}, {5, 70, 0, 1}, {6, 70, 7, 1}};
        for (int[] row : due) {
            for (int i = 0; i < 3; i++) {
                int what = i;
                w.answers("Promise 34: as(0, " + row[0] + ", " + what + ")", row[what + 1], x -> x.as(0, row[0], what));
            }
        }
        w.refuses("Promise 34: not told yet, what outside", Due.OUTSIDE, x -> x.as(0, 0, 3));
        World last = World.empty().pass(599).then(x -> x.loan(70, 0, 7));
        last.answers("Promise 34: the last month", 1, x -> x.as(0, 599, 2));
        last.answers("Promise 34: ahead of it", 0, x -> x.as(0, 598, 2));
    }

    /** "in the end of it (of THE MONTH: now)": ahead of the month in which it was closed, in it, and behind. */
    private static void asOfTheEnd() {
        World paid = loan(70, 0, 7).pass(3).then(x -> x.pay(0, 70)).pass(2);
        World back = loan(70, 0, 7).term(0, 0, "o>0").pass(3).then(x -> x.pay(0, 1)).then(x -> x.takeBack(0)).pass(2);
        int[][] due = {{2, 70, 14, 1, 70, 14, 1}, {3, 0, 0, 2, 69, 20, 3}, {4, 0, 0, 2, 69, 20, 3}, {5, 0, 0, 2, 69, 20, 3}};
        for (int[] row : due) {
            for (int i = 0; i < 3; i++) {
                int what = i;
                paid.answers("Promise 34: paid off, as(0, " + row[0] + ", " + what + ")", row[1 + what], x -> x.as(0, row[0], what));
                back.answers("Promise 34: taken back, as(0, " + row[0] + ", " + what + ")", row[4 + what], x -> x.as(0, row[0], what));
            }
        }
        World now = loan(70, 0, 7).pass(1);
        now.answers("Promise 34: of THE MONTH: now", 60, x -> x.pay(0, 10) * 0 + x.as(0, 1, 0));
        now.answers("Promise 34: the month ahead stays", 70, x -> x.pay(0, 10) * 0 + x.as(0, 0, 0));
        World first = loan(70, 0, 7).term(0, 0, "m=0");
        first.answers("Promise 34: taken back in its first month", 3, x -> x.takeBack(0) * 0 + x.as(0, 0, 2));
        first.answers("Promise 34: paid off in its first month", 2, x -> x.pay(0, 70) * 0 + x.as(0, 0, 2));
    }

    /** "ARREARS: DUE by PART, cut". */
    private static void arrearsAreCut() {
        World w = loan(1000, 0, 50).pass(3);
        int[][] rows = {{1, 2}, {49, 2}, {50, 2}, {51, 1}, {100, 1}, {101, 0}, {149, 0}, {150, 0}, {999, 0}};
        w.answers("Promise 35: three parts", 3, x -> x.arrears(0));
        for (int[] row : rows) {
            w.answers("Promise 35: behind a pay of " + row[0], row[1], x -> x.pay(0, row[0]) * 0 + x.arrears(0));
        }
        loan(1, 0, 10000).answers("Promise 35: less than a part is owed", 0, x -> x.pass(60) * 0 + x.arrears(0));
        loan(1, 0, 1).answers("Promise 35: just a part is", 1, x -> x.pass(60) * 0 + x.arrears(0));
        loan(100000, 0, 1).pass(599).answers("Promise 35: the most", 599, x -> x.arrears(0));
        for (int l : new int[] {Integer.MIN_VALUE, -1, 1, Integer.MAX_VALUE}) {
            w.refuses("Promise 35: arrears(" + l + ")", Due.UNKNOWN, x -> x.arrears(l));
        }
    }

    /** "MAY BE TAKEN BACK, if its LOAN is OPEN, and the TERM in force says so (none: never)". */
    private static void mayIfOpen() {
        World w = loan(10, 0, 1).term(0, 0, "m<1");
        w.answers("Promise 40: it may", 1, x -> x.may(0));
        w.answers("Promise 40: all but one paid, it may", 1, x -> x.pay(0, 9) * 0 + x.may(0));
        w.answers("Promise 40: paid off, it may not", 0, x -> x.pay(0, 10) * 0 + x.may(0));
        w.answers("Promise 40: taken back, it may not", 0, x -> x.takeBack(0) * 0 + x.may(0));
        w.answers("Promise 40: a month on, it may not", 0, x -> x.pass(1) * 0 + x.may(0));
        w.answers("Promise 40: with a fault, it may not", 0, x -> x.feed(0, '&') * 0 + x.may(0));
        for (int l : new int[] {Integer.MIN_VALUE, -1, 1, Integer.MAX_VALUE}) {
            w.refuses("Promise 40: may(" + l + ")", Due.UNKNOWN, x -> x.may(l));
            w.refuses("Promise 41: takeBack(" + l + ")", Due.UNKNOWN, x -> x.takeBack(l));
        }
    }

    private static void mayFromAMonthOn() {
        for (int month : new int[] {1, 2, 599}) {
            World ahead = loan(10, 0, 1).term(0, month, "o>0").pass(month - 1);
            ahead.answers("Promise 40: ahead of its month", 0, x -> x.may(0));
            ahead.refuses("Promise 41: ahead of its month", Due.STATE, x -> x.takeBack(0));
            ahead.answers("Promise 40: in its month", 1, x -> x.pass(1) * 0 + x.may(0));
            ahead.answers("Promise 41: in its month", 10, x -> x.pass(1) * 0 + x.takeBack(0));
        }
        loan(10, 0, 1).term(0, 0, "o>0").answers("Promise 40: from the first month on", 1, x -> x.may(0));
        World past = loan(10, 0, 1).pass(60).term(0, 3, "o>0");
        past.answers("Promise 40: one that is told for a month gone by is in force", 1, x -> x.may(0));
    }

    /** Promise 41: "what was OWED", above the ints too; "STATE: it may not". */
    private static void takeBackTellsLongs() {
        World w = loan(100000, 50, 1).term(0, 0, "a>598").pass(598);
        w.refuses("Promise 41: it may not", Due.STATE, x -> x.takeBack(0));
        w.answers("Promise 41: in the last month", 1, x -> x.pass(1) * 0 + (x.takeBack(0) > Integer.MAX_VALUE ? 1 : 0));
        World now = loan(100000, 50, 1).term(0, 0, "a>598").pass(599);
        long owed = now.make().as(0, 599, 0);
        now.answers("Promise 41: what was owed", owed, x -> x.takeBack(0));
        now.answers("Promise 34: it stays told", owed, x -> x.takeBack(0) * 0 + x.as(0, 599, 0));
        loan(1, 0, 1).term(0, 0, "o=1").answers("Promise 41: the least", 1, x -> x.takeBack(0));
    }

    /** "TAKEN BACK: nothing grows any more, OWED and DUE stay told". */
    private static void takeBackAndTheRest() {
        World w = loan(1000, 50, 100).term(0, 0, "a>0").then(x -> x.loan(1000, 50, 100)).pass(1).then(x -> x.takeBack(0));
        w.refuses("Promise 41: not twice", Due.STATE, x -> x.takeBack(0));
        w.answers("Promise 43: the other is open", 1, x -> x.count(4));
        w.answers("Promise 34: owed stays", 1050, x -> x.pass(60) * 0 + x.as(0, 61, 0));
        w.answers("Promise 34: due stays", 100, x -> x.pass(60) * 0 + x.as(0, 61, 1));
        w.answers("Promise 35: arrears stay", 1, x -> x.pass(60) * 0 + x.arrears(0));
        w.answers("Promise 34: the other grows", 1102, x -> x.pass(1) * 0 + x.as(1, 2, 0));
        World paid = loan(10, 0, 1).term(0, 0, "o>0").then(x -> x.pay(0, 10));
        paid.refuses("Promise 41: paid off", Due.STATE, x -> x.takeBack(0));
    }

    /** Promise 42: "0: now; 120 at most". */
    private static void soonIn120() {
        int[][] rows = {{0, 0}, {1, 1}, {2, 2}, {119, 119}, {120, 120}, {121, Due.NONE}, {99999, Due.NONE}};
        for (int[] row : rows) {
            String text = "m=" + row[0];
            World w = loan(10, 0, 1).term(0, 0, text);
            w.answers("Promise 42: " + text, row[1], x -> x.soon(0));
            w.stays("Promise 42: " + text, java.util.List.of(x -> x.soon(0)));
        }
        World gone = loan(10, 0, 1).term(0, 0, "m=5").pass(5);
        gone.answers("Promise 42: now", 0, x -> x.soon(0));
        gone.answers("Promise 42: gone by", Due.NONE, x -> x.pass(1) * 0 + x.soon(0));
        World grows = loan(1000, 50, 100).term(0, 0, "o>1050&d<201&a>1");
        grows.answers("Promise 42: as it would grow", 2, x -> x.soon(0));
        World idle = loan(10, 0, 1).term(0, 0, "w=0&m>1");
        idle.answers("Promise 42: WORK as it is: has", Due.NONE, x -> x.soon(0));
        idle.answers("Promise 42: WORK as it is: has not", 2, x -> x.work(0, false) * 0 + x.soon(0));
    }

    /** ".. till MONTH 599". */
    private static void soonTill599() {
        int[][] rows = {{478, 120, 120}, {479, 120, 120}, {479, 121, Due.NONE}, {480, 119, 119}, {480, 120, Due.NONE}, {598, 0, 0},
            {598, 1, 1}, {598, 2, Due.NONE}, {599, 0, 0}, {599, 1, Due.NONE}};
        for (int[] row : rows) {
            String text = "m=" + row[1];
            World w = World.empty().pass(row[0]).then(x -> x.loan(10, 0, 1)).term(0, 0, text);
            w.answers("Promise 42: " + text + " in month " + row[0], row[2], x -> x.soon(0));
        }
    }

    /** ".. by the TERM in force in each". */
    private static void soonByTermInForce() {
        for (int month : new int[] {0, 1, 119, 120, 121, 599}) {
            int due = month <= 120 ? month : Due.NONE;
            loan(10, 0, 1).term(0, month, "o>0").answers("Promise 42: a term from " + month, due, x -> x.soon(0));
        }
        World last = loan(10, 0, 1).pass(500).term(0, 599, "o>0");
        last.answers("Promise 42: from the last month on", 99, x -> x.soon(0));
        World ends = loan(10, 0, 1).term(0, 0, "m=3").term(1, 3, "o<1");
        ends.answers("Promise 42: another is in force by then", Due.NONE, x -> x.soon(0));
        World just = loan(10, 0, 1).term(0, 0, "m=3").term(1, 4, "o<1");
        just.answers("Promise 42: another is in force just behind", 3, x -> x.soon(0));
        World fault = loan(10, 0, 1).term(0, 0, "m=3").term(1, 3, "o<");
        fault.answers("Promise 42: one with a fault is not", 3, x -> x.soon(0));
    }

    /** Promise 42: UNKNOWN; "STATE: it is not OPEN". */
    private static void soonNotOpen() {
        World w = loan(10, 0, 1).term(0, 0, "o>0");
        for (int l : new int[] {Integer.MIN_VALUE, -1, 1, 8, Integer.MAX_VALUE}) {
            w.refuses("Promise 42: soon(" + l + ")", Due.UNKNOWN, x -> x.soon(l));
        }
        loan(10, 0, 1).term(0, 0, "o>0").then(x -> x.pay(0, 10)).refuses("Promise 42: paid off", Due.STATE, x -> x.soon(0));
        loan(10, 0, 1).term(0, 0, "o>0").then(x -> x.takeBack(0)).refuses("Promise 42: taken back", Due.STATE, x -> x.soon(0));
        loan(10, 0, 1).then(x -> x.pay(0, 10)).refuses("Promise 42: paid off, without terms", Due.STATE, x -> x.soon(0));
    }

    /** Promise 43: 0 to 7. */
    private static void countTaken() {
        int[] due = {3, 2, 3, 4, 2, 2, 10, 120};
        for (int i = 0; i < 8; i++) {
            int what = i;
            World.some().answers("Promise 43: count(" + what + ")", due[what], x -> x.count(what));
        }
        int[] most = {12, 20, 40, 8, 6, 4, 599, 400};
        for (int i = 0; i < 8; i++) {
            int what = i;
            World.full().answers("Promise 43: count(" + what + "), full", most[what], x -> x.count(what));
        }
        for (int what : new int[] {Integer.MIN_VALUE, -1, 8, Integer.MAX_VALUE}) {
            World.some().refuses("Promise 43: count(" + what + ")", Due.OUTSIDE, x -> x.count(what));
        }
    }
}
