import java.math.BigInteger;

/** Promises 30 to 35 and 40 to 43: loans, against the document's words and against a reckoning without limits. */
public final class LoansTest {
    private static final int MOST = Integer.MAX_VALUE, LEAST = Integer.MIN_VALUE;

    public static void main(String[] args) {
        pass();
        loan();
        interest();
        due();
        pay();
        work();
        asOf();
        arrears();
        may();
        takeBack();
        soon();
        soonLimits();
        soonByTerms();
        count();
        greatest();
        for (int run = 0; run < 1000; run++) {
            anyLoans();
        }
        Due.end();
    }

    /** An object whose only term, in force from the start, is the text. */
    private static BoxcarHouses withTerm(String text) {
        BoxcarHouses x = new BoxcarHouses();
        x.term(0);
        Due.feed(x, 0, text);
        return x;
    }

    private static void passTo(BoxcarHouses x, int month) {
        for (int gone = x.count(6); gone < month; gone += 60) {
            x.pass(Math.min(60, month - gone));
        }
    }

    /** Promise 30. */
    private static void pass() {
        BoxcarHouses x = new BoxcarHouses();
        for (int n : new int[] {0, 61, -1, MOST, LEAST}) {
            Due.is("pass(" + n + ")", x.pass(n), Due.OUTSIDE);
        }
        Due.is("count(6)", x.count(6), 0);
        Due.is("pass(1)", x.pass(1), 1);
        for (int i = 1; i <= 9; i++) {
            Due.is("pass(60)", x.pass(60), 1 + 60 * i);
        }
        x.loan(100, 10, 1);
        Due.is("pass(59), above 599", x.pass(59), Due.FULL);
        Due.is("pass(61), outside", x.pass(61), Due.OUTSIDE);
        Due.is("nothing went by", x.count(6) * 1000 + x.as(0, 541, 0), 541100);
        Due.is("pass(58)", x.pass(58), 599);
        Due.is("pass(1), above 599", x.pass(1), Due.FULL);
        Due.is("a loan in the last month", x.loan(7, 0, 1), 1);
        Due.is("as of the last month", x.as(1, 599, 0), 7);
        Due.is("as of the one ahead", x.as(1, 598, 0), 0);
    }

    /** Promise 31. */
    private static void loan() {
        BoxcarHouses x = new BoxcarHouses();
        int[][] bad = {{0, 0, 1}, {100001, 0, 1}, {1, -1, 1}, {1, 51, 1}, {1, 0, 0}, {1, 0, 10001}, {MOST, 0, 1}, {1, MOST, 1}, {1, 0, LEAST}};
        for (int[] b : bad) {
            Due.is("loan outside", x.loan(b[0], b[1], b[2]), Due.OUTSIDE);
        }
        Due.is("none came", x.count(3), 0);
        Due.is("the least", x.loan(1, 0, 1), 0);
        Due.is("the most", x.loan(100000, 50, 10000), 1);
        Due.is("owed", x.as(1, 0, 0), 100000);
        Due.is("due", x.as(1, 0, 1), 0);
        Due.is("open", x.as(1, 0, 2), 1);
        for (int i = 2; i < 8; i++) {
            Due.is("loan " + i, x.loan(i, i, i), i);
        }
        Due.is("loan 8", x.loan(1, 0, 1), Due.FULL);
        Due.is("loan 8, outside", x.loan(1, 0, 0), Due.OUTSIDE);
        Due.is("count(3)", x.count(3), 8);
        x.pass(1);
        Due.is("interest of the most", x.as(1, 1, 0), 105000);
        Due.is("its part", x.as(1, 1, 1), 10000);
    }

    private static void interest() {
        BoxcarHouses x = new BoxcarHouses();
        x.loan(999, 1, 1);
        x.loan(1000, 1, 1);
        x.loan(1999, 1, 1);
        x.loan(39, 50, 1);
        x.pass(1);
        Due.is("cut to nothing", x.as(0, 1, 0), 999);
        Due.is("just one", x.as(1, 1, 0), 1001);
        Due.is("cut to one", x.as(2, 1, 0), 2000);
        Due.is("39 at 50", x.as(3, 1, 0), 40);
        x.pass(1);
        Due.is("40 at 50", x.as(3, 2, 0), 42);
        Due.is("as of the month ahead", x.as(3, 1, 0), 40);
        Due.is("on what is owed with interest", x.as(2, 2, 0), 2002);
    }

    private static void due() {
        BoxcarHouses x = new BoxcarHouses();
        x.loan(100, 0, 40);
        int[] due = {0, 40, 80, 100, 100};
        for (int m = 1; m < 5; m++) {
            x.pass(1);
        }
        for (int m = 0; m < 5; m++) {
            Due.is("due in month " + m, x.as(0, m, 1), due[m]);
        }
        BoxcarHouses y = new BoxcarHouses();
        y.loan(1000, 50, 10000);
        y.pass(1);
        Due.is("interest comes ahead of the part", y.as(0, 1, 1), 1050);
    }

    /** Promise 32. */
    private static void pay() {
        BoxcarHouses x = new BoxcarHouses();
        Due.is("no loan", x.pay(0, 1), Due.UNKNOWN);
        x.loan(100, 0, 40);
        for (int loan : new int[] {-1, 1, 8, MOST, LEAST}) {
            Due.is("pay(" + loan + ")", x.pay(loan, 0), Due.UNKNOWN);
        }
        for (int v : new int[] {0, 100001, -1, MOST, LEAST}) {
            Due.is("pay(0, " + v + ")", x.pay(0, v), Due.OUTSIDE);
        }
        Due.is("ahead of all dues", x.pay(0, 10), 10);
        Due.is("owed", x.as(0, 0, 0), 90);
        Due.is("due is 0 at least", x.as(0, 0, 1), 0);
        x.pass(1);
        Due.is("pay(0, 30)", x.pay(0, 30), 30);
        Due.is("owed", x.as(0, 1, 0), 60);
        Due.is("due", x.as(0, 1, 1), 10);
        Due.is("and again in the month", x.pay(0, 15), 15);
        Due.is("due is 0", x.as(0, 1, 1), 0);
        Due.is("owed", x.as(0, 1, 0), 45);
        Due.is("all", x.pay(0, 100000), 45);
        Due.is("owed is 0", x.as(0, 1, 0), 0);
        Due.is("paid off", x.as(0, 1, 2), 2);
        Due.is("not open", x.pay(0, 1), Due.STATE);
        Due.is("not open, outside", x.pay(0, 0), Due.OUTSIDE);
        x.loan(100, 0, 1);
        Due.is("just so", x.pay(1, 100), 100);
        Due.is("paid off in its first month", x.as(1, 1, 2), 2);
        Due.is("not told yet ahead", x.as(1, 0, 2), 0);
        x.loan(100, 0, 1);
        Due.is("all but one", x.pay(2, 99), 99);
        Due.is("open", x.as(2, 1, 2), 1);
        Due.is("count(4)", x.count(4), 1);
    }

    /** Promise 33. */
    private static void work() {
        BoxcarHouses x = withTerm("w=0");
        Due.is("no loan", x.work(0, true), Due.UNKNOWN);
        x.loan(100, 0, 40);
        x.loan(100, 0, 40);
        Due.is("has at first", x.work(0, true), 1);
        Due.is("not taken back", x.may(0), 0);
        Due.is("has", x.work(0, false), 1);
        Due.is("taken back", x.may(0), 1);
        Due.is("the other not", x.may(1), 0);
        Due.is("has not", x.work(0, false), 0);
        Due.is("has not, then has", x.work(0, true), 0);
        Due.is("has again", x.work(0, true), 1);
        for (int loan : new int[] {-1, 2, MOST, LEAST}) {
            Due.is("work(" + loan + ")", x.work(loan, true), Due.UNKNOWN);
        }
        x.pay(0, 100);
        Due.is("of one that is paid off", x.work(0, false), 1);
        Due.is("as it was", x.work(0, false), 0);
    }

    /** Promise 34. */
    private static void asOf() {
        BoxcarHouses x = withTerm("m>0");
        x.pass(2);
        Due.is("no loan", x.as(0, 3, 3), Due.UNKNOWN);
        x.loan(1000, 10, 100);
        for (int loan : new int[] {-1, 1, MOST, LEAST}) {
            Due.is("as(" + loan + ", ..)", x.as(loan, -1, -1), Due.UNKNOWN);
        }
        for (int month : new int[] {-1, 3, 600, MOST, LEAST}) {
            Due.is("as(0, " + month + ", 0)", x.as(0, month, 0), Due.OUTSIDE);
        }
        for (int what : new int[] {-1, 3, MOST, LEAST}) {
            Due.is("as(0, 0, " + what + ")", x.as(0, 0, what), Due.OUTSIDE);
            Due.is("as(0, 2, " + what + ")", x.as(0, 2, what), Due.OUTSIDE);
        }
        x.pass(2);
        x.pay(0, 120);
        x.pass(1);
        x.pay(0, 5);
        Due.is("taken back", x.takeBack(0), 904);
        x.pass(3);
        int[][] due = {{0, 0, 0}, {0, 0, 0}, {1000, 0, 1}, {1010, 100, 1}, {900, 80, 1},
            {904, 175, 3}, {904, 175, 3}, {904, 175, 3}, {904, 175, 3}};
        for (int month = 0; month <= 8; month++) {
            for (int what = 0; what < 3; what++) {
                Due.is("as(0, " + month + ", " + what + ")", x.as(0, month, what), due[month][what]);
            }
        }
        asOfPaidOff();
    }

    private static void asOfPaidOff() {
        BoxcarHouses x = new BoxcarHouses();
        x.loan(50, 50, 7);
        x.pass(1);
        x.pay(0, 100);
        x.pass(5);
        Due.is("open in its first month", x.as(0, 0, 2), 1);
        Due.is("owed in its first month", x.as(0, 0, 0), 50);
        for (int month = 1; month <= 6; month++) {
            Due.is("paid off", x.as(0, month, 2), 2);
            Due.is("nothing is owed", x.as(0, month, 0), 0);
            Due.is("nothing is due", x.as(0, month, 1), 0);
        }
    }

    /** Promise 35. */
    private static void arrears() {
        BoxcarHouses x = withTerm("a>2");
        x.loan(1000, 0, 100);
        x.loan(250, 0, 100);
        Due.is("none at first", x.arrears(0), 0);
        x.pass(3);
        Due.is("three", x.arrears(0), 3);
        Due.is("cut", x.arrears(1), 2);
        x.pay(0, 1);
        Due.is("one less", x.arrears(0), 2);
        x.pass(1);
        Due.is("takeBack", x.takeBack(0), 999);
        x.pass(4);
        Due.is("they stay", x.arrears(0), 3);
        x.pay(1, 250);
        Due.is("paid off", x.arrears(1), 0);
        for (int loan : new int[] {-1, 2, MOST, LEAST}) {
            Due.is("arrears(" + loan + ")", x.arrears(loan), Due.UNKNOWN);
        }
    }

    /** Promise 40. */
    private static void may() {
        BoxcarHouses x = new BoxcarHouses();
        Due.is("no loan", x.may(0), Due.UNKNOWN);
        x.loan(100, 0, 10);
        Due.is("no term: never", x.may(0), 0);
        x.term(0);
        Due.is("one without bytes: never", x.may(0), 0);
        Due.feed(x, 0, "m>0");
        Due.is("not yet", x.may(0), 0);
        x.pass(1);
        Due.is("now", x.may(0), 1);
        for (int loan : new int[] {-1, 1, MOST, LEAST}) {
            Due.is("may(" + loan + ")", x.may(loan), Due.UNKNOWN);
        }
        x.loan(100, 0, 10);
        Due.is("months since that loan", x.may(1), 0);
        x.pass(1);
        Due.is("now that too", x.may(1), 1);
        x.pay(1, 100);
        Due.is("paid off", x.may(1), 0);
        x.takeBack(0);
        Due.is("taken back", x.may(0), 0);
        letters();
    }

    /** Each letter is what it stands for, and no other. */
    private static void letters() {
        BoxcarHouses x = new BoxcarHouses();
        x.pass(5);
        x.loan(1000, 10, 100);
        x.pass(3);
        String[] terms = {"a=3", "d=300", "o=1030", "m=3", "w=1"};
        for (String text : terms) {
            BoxcarHouses y = new BoxcarHouses();
            y.term(0);
            y.pass(5);
            y.loan(1000, 10, 100);
            y.pass(3);
            Due.feed(y, 0, text);
            Due.is(text, y.may(0), 1);
        }
        Due.is("owed", x.as(0, 8, 0), 1030);
    }

    /** Promise 41. */
    private static void takeBack() {
        BoxcarHouses x = withTerm("a>0");
        Due.is("no loan", x.takeBack(0), Due.UNKNOWN);
        x.loan(1000, 50, 100);
        Due.is("may not", x.takeBack(0), Due.STATE);
        Due.is("open still", x.as(0, 0, 2), 1);
        x.pass(1);
        Due.is("may", x.takeBack(0), 1050);
        Due.is("not twice", x.takeBack(0), Due.STATE);
        Due.is("no pay", x.pay(0, 5), Due.STATE);
        Due.is("not open", x.count(4), 0);
        Due.is("told", x.count(3), 1);
        x.pass(10);
        Due.is("nothing grows", x.as(0, 11, 0) * 1000 + x.as(0, 11, 1), 1050100);
        for (int loan : new int[] {-1, 1, MOST, LEAST}) {
            Due.is("takeBack(" + loan + ")", x.takeBack(loan), Due.UNKNOWN);
        }
    }

    /** Promise 42. */
    private static void soon() {
        BoxcarHouses x = withTerm("a>2 | d=950");
        Due.is("no loan", x.soon(0), Due.UNKNOWN);
        x.loan(1000, 10, 100);
        Due.is("in three", x.soon(0), 3);
        Due.is("nothing went by", x.as(0, 0, 0) + x.count(6), 1000);
        x.pass(3);
        Due.is("now", x.soon(0), 0);
        x.pay(0, 250);
        Due.is("in three again", x.soon(0), 3);
        x.takeBack(0);
        x.loan(5, 0, 10000);
        Due.is("never", x.soon(1), Due.NONE);
        x.pay(1, 5);
        Due.is("paid off", x.soon(1), Due.STATE);
        for (int loan : new int[] {-1, 2, MOST, LEAST}) {
            Due.is("soon(" + loan + ")", x.soon(loan), Due.UNKNOWN);
        }
        x.pass(3);
        x.takeBack(0);
        Due.is("taken back", x.soon(0), Due.STATE);
        BoxcarHouses z = withTerm("o>1030");
        z.loan(1000, 10, 100);
        z.loan(1000, 20, 100);
        Due.is("1010, 1020, 1030, 1040", z.soon(0), 4);
        Due.is("1020, 1040", z.soon(1), 2);
        Due.is("the first still", z.soon(0), 4);
        BoxcarHouses y = withTerm("w=0&m>4");
        y.loan(100, 0, 1);
        Due.is("who works is safe", y.soon(0), Due.NONE);
        y.work(0, false);
        Due.is("who does not is not", y.soon(0), 5);
    }

    private static void soonLimits() {
        BoxcarHouses x = withTerm("m=120");
        x.loan(100, 0, 1);
        Due.is("in 120", x.soon(0), 120);
        BoxcarHouses y = withTerm("m=121");
        y.loan(100, 0, 1);
        Due.is("not in 121", y.soon(0), Due.NONE);
        y.pass(1);
        Due.is("in 120 then", y.soon(0), 120);
        BoxcarHouses z = withTerm("m=19");
        passTo(z, 580);
        z.loan(100, 0, 1);
        Due.is("till 599", z.soon(0), 19);
        BoxcarHouses w = withTerm("m=19");
        passTo(w, 581);
        w.loan(100, 0, 1);
        Due.is("not till 600", w.soon(0), Due.NONE);
        w.pass(18);
        Due.is("nor in the last", w.soon(0), Due.NONE);
    }

    private static void soonByTerms() {
        BoxcarHouses x = withTerm("a>9");
        x.term(5);
        Due.feed(x, 1, "o>0");
        x.term(3);
        Due.feed(x, 2, "o>0 &");
        x.loan(100, 0, 1);
        Due.is("by the term in force then", x.soon(0), 5);
        Due.feed(x, 2, "o<9");
        Due.is("mended, it says no", x.soon(0), 5);
        x.pass(5);
        Due.is("now", x.soon(0), 0);
        x.term(5);
        Due.feed(x, 3, "m=11");
        Due.is("of like ones the last", x.soon(0), 6);
    }

    /** Promise 43. */
    private static void count() {
        BoxcarHouses x = new BoxcarHouses();
        for (int what : new int[] {-1, 8, MOST, LEAST}) {
            Due.is("count(" + what + ")", x.count(what), Due.OUTSIDE);
        }
        x.piece(0, 1, 0, false);
        x.piece(0, 1, 0, false);
        x.meet(0, 0, 1, 0);
        for (int i = 0; i < 3; i++) {
            x.report(0, 0, 0, 0, false);
        }
        for (int i = 0; i < 5; i++) {
            x.loan(1, 0, 1);
        }
        x.pay(0, 1);
        for (int i = 0; i < 4; i++) {
            x.term(0);
        }
        x.pass(6);
        x.width(8);
        int[] due = {2, 1, 3, 5, 4, 4, 6, 8};
        for (int what = 0; what < 8; what++) {
            Due.is("count(" + what + ")", x.count(what), due[what]);
        }
    }

    /** What is owed times the rate is above the longs in the last months. */
    private static void greatest() {
        BoxcarHouses x = withTerm("o>99999");
        x.loan(100000, 50, 10000);
        passTo(x, 599);
        BigInteger owed = BigInteger.valueOf(100000);
        for (int month = 0; month <= 599; month++) {
            if (month % 4 == 0 || month > 500) {
                Due.is("owed in " + month, x.as(0, month, 0), owed.longValueExact());
            }
            owed = owed.add(owed.multiply(BigInteger.valueOf(50)).divide(BigInteger.valueOf(1000)));
        }
        Due.is("due", x.as(0, 599, 1), 5990000);
        Due.is("arrears", x.arrears(0), 599);
        Due.is("soon", x.soon(0), 0);
        Due.is("takeBack", x.takeBack(0), x.as(0, 599, 0));
    }

    /** Loans, pays and months as they come, each month's end written down. */
    private static void anyLoans() {
        BoxcarHouses x = withTerm("a>3&m>5|w=0");
        int loans = Due.any(1, 8);
        int steps = 60;
        int[] rate = new int[loans];
        int[] part = new int[loans];
        int[] since = new int[loans];
        int[] how = new int[loans];
        boolean[] works = new boolean[loans];
        long[] owed = new long[loans];
        long[] due = new long[loans];
        long[][][] end = new long[600][loans][3];
        int told = 0;
        int month = 0;
        for (int step = 0; step < steps; step++) {
            int i = Due.any(0, loans - 1);
            int kind = Due.any(0, 9);
            if (told < loans && kind < 3) {
                owed[told] = Due.any(1, Due.chance(50) ? 100 : 100000);
                rate[told] = Due.any(0, 50);
                part[told] = Due.any(1, 2000);
                since[told] = month;
                how[told] = 1;
                works[told] = true;
                Due.is("any loan", x.loan((int) owed[told], rate[told], part[told]), told);
                told++;
            } else if (kind < 6) {
                int n = Due.any(1, 7);
                for (int k = 0; k < n; k++) {
                    month++;
                    for (int l = 0; l < told; l++) {
                        if (how[l] == 1) {
                            owed[l] += owed[l] * rate[l] / 1000;
                            due[l] = Math.min(owed[l], due[l] + part[l]);
                        }
                    }
                    write(end[month], told, owed, due, how);
                }
                Due.is("any pass", x.pass(n), month);
            } else if (i < told && kind < 8) {
                int v = Due.any(1, Due.chance(70) ? 3000 : 100000);
                long taken = Math.min(v, owed[i]);
                Due.is("any pay", x.pay(i, v), how[i] == 1 ? taken : Due.STATE);
                if (how[i] == 1) {
                    owed[i] -= taken;
                    due[i] = Math.max(0, due[i] - v);
                    how[i] = owed[i] == 0 ? 2 : 1;
                }
            } else if (i < told && kind == 8) {
                boolean has = Due.chance(80);
                Due.is("any work", x.work(i, has), works[i] ? 1 : 0);
                works[i] = has;
            } else if (i < told) {
                boolean may = how[i] == 1 && (due[i] / part[i] > 3 && month - since[i] > 5 || !works[i]);
                Due.is("any may", x.may(i), may ? 1 : 0);
                Due.is("any takeBack", x.takeBack(i), may ? owed[i] : Due.STATE);
                how[i] = may ? 3 : how[i];
            }
            write(end[month], told, owed, due, how);
        }
        int open = 0;
        for (int l = 0; l < told; l++) {
            open += how[l] == 1 ? 1 : 0;
            Due.is("any arrears", x.arrears(l), due[l] / part[l]);
            // an object is used for 512 calls at most, so not every month is asked for
            for (int k = 0; k < 16; k++) {
                int m = k == 0 ? month : Due.any(0, month);
                for (int what = 0; what < 3; what++) {
                    Due.is("any as", x.as(l, m, what), end[m][l][what]);
                }
            }
        }
        Due.is("any open", x.count(4), open);
    }

    private static void write(long[][] end, int told, long[] owed, long[] due, int[] how) {
        for (int l = 0; l < told; l++) {
            end[l][0] = owed[l];
            end[l][1] = due[l];
            end[l][2] = how[l];
        }
    }
}
