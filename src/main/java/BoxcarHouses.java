/**
 * Houses in a boxcar: plans, boards, cars, reports and loans. The methods of the face look at their
 * arguments and refuse in the order that the document names; the classes inside do the work and may
 * rely on what has been looked at.
 */
public final class BoxcarHouses {
    public static final int UNKNOWN = -900001, OUTSIDE = -900002, STATE = -900003, FULL = -900004, NONE = -900009;

    private static final int MOST_PIECES = 12;
    private static final int MOST_MEETINGS = 20;
    private static final int MOST_REPORTS = 40;
    private static final int MOST_LOANS = 8;
    private static final int MOST_TERMS = 4;
    private static final int MOST_BYTES = 60;
    private static final int SORTS = 4;
    private static final int CAUSES = 16;
    private static final int LAST_MONTH = 599;
    private static final int FARTHEST = 400;
    private static final int LONGEST = 200;
    private static final int LONGEST_BOARD = 400;

    private final Plan plan;
    private final Leaning leaning;
    private final Cut cut;
    private final Cars cars;
    private final Reports reports;
    private final Books books;

    public BoxcarHouses() {
        plan = new Plan();
        leaning = new Leaning();
        cut = new Cut();
        cars = new Cars();
        reports = new Reports();
        books = new Books();
    }

    // ---- plans

    public int width(int v) {
        if (isOutside(v, 1, FARTHEST)) {
            return OUTSIDE;
        }
        int was = plan.span;
        plan.span = v;
        return was;
    }

    public int piece(int place, int length, int level, boolean fixed) {
        if (isOutside(place, 0, FARTHEST) || isOutside(length, 1, LONGEST) || isOutside(level, 0, 9)) {
            return OUTSIDE;
        }
        if (plan.pieces >= MOST_PIECES) {
            return FULL;
        }
        forgetLengths();
        return plan.addPiece(place, length, level, fixed);
    }

    public int about(int piece, int what) {
        if (!plan.has(piece)) {
            return UNKNOWN;
        }
        switch (what) {
            case 0:
                return plan.left[piece];
            case 1:
                return plan.size[piece];
            case 2:
                return plan.height[piece];
            case 3:
                return plan.rigid[piece] ? 1 : 0;
            default:
                return OUTSIDE;
        }
    }

    public int meet(int a, int end, int b, int other) {
        if (!plan.has(a) || !plan.has(b)) {
            return UNKNOWN;
        }
        if (isOutside(end, 0, 1) || isOutside(other, 0, 1)) {
            return OUTSIDE;
        }
        if (a == b) {
            return STATE;
        }
        if (plan.meetings >= MOST_MEETINGS) {
            return FULL;
        }
        return plan.addMeeting(a, end, b, other);
    }

    public int apart() {
        for (int m = 0; m < plan.meetings; m++) {
            if (!plan.holds(m)) {
                return m;
            }
        }
        return NONE;
    }

    public int mirror() {
        return plan.canTurnRound() ? plan.turnRound() : STATE;
    }

    public int stretch(int line, int by) {
        if (isNoStretch(line, by)) {
            return OUTSIDE;
        }
        if (plan.hindrance(line, by) != 0) {
            return STATE;
        }
        forgetLengths();
        return plan.pullApart(line, by);
    }

    public int why(int line, int by) {
        return isNoStretch(line, by) ? OUTSIDE : plan.hindrance(line, by);
    }

    public int lean(int a, int b, boolean is) {
        if (!plan.has(a) || !plan.has(b)) {
            return UNKNOWN;
        }
        if (is && (a == b || leaning.rests(b, a))) {
            return STATE;
        }
        cars.stale = true;
        return leaning.put(a, b, is) ? 1 : 0;
    }

    public int order(int i) {
        if (!plan.has(i)) {
            return NONE;
        }
        leaning.lineUp(plan.pieces);
        return leaning.row[i];
    }

    public int below(int piece) {
        return plan.has(piece) ? Integer.bitCount(leaning.allBelow(piece)) : UNKNOWN;
    }

    // ---- boards

    public int sort(int sort, int length, int price) {
        if (isOutside(sort, 0, SORTS - 1)) {
            return UNKNOWN;
        }
        if (isOutside(length, 0, LONGEST_BOARD) || isOutside(price, 0, 9999)) {
            return OUTSIDE;
        }
        int was = cut.sortLength[sort];
        cut.sortLength[sort] = length;
        cut.sortPrice[sort] = price;
        cut.stale = true;
        return was;
    }

    public int saw(int v) {
        if (isOutside(v, 0, 9)) {
            return OUTSIDE;
        }
        int was = cut.loss;
        cut.loss = v;
        cut.stale = true;
        return was;
    }

    public int price() {
        return isCut() ? cut.total : NONE;
    }

    public int boards() {
        return isCut() ? cut.used : NONE;
    }

    public int board(int piece) {
        if (!plan.has(piece)) {
            return UNKNOWN;
        }
        return isCut() ? cut.from[piece] : NONE;
    }

    public int ofBoard(int board, int what) {
        if (!isCut() || isOutside(board, 0, cut.used - 1)) {
            return UNKNOWN;
        }
        if (isOutside(what, 0, 1)) {
            return OUTSIDE;
        }
        return what == 0 ? cut.sortOf[board] : cut.rest[board];
    }

    public int other(int length) {
        if (isOutside(length, 1, LONGEST_BOARD)) {
            return OUTSIDE;
        }
        return isCut() ? cut.shortestRest(length) : NONE;
    }

    // ---- cars

    public int car(int car, int v) {
        if (isOutside(car, 0, 1)) {
            return UNKNOWN;
        }
        if (isOutside(v, 1, 3000)) {
            return OUTSIDE;
        }
        int was = cars.room[car];
        cars.room[car] = v;
        cars.stale = true;
        return was;
    }

    public int packing() {
        packIfStale();
        return cars.fewest;
    }

    public int carOf(int piece) {
        if (!plan.has(piece)) {
            return UNKNOWN;
        }
        packIfStale();
        return cars.fewest == NONE ? NONE : cars.bestSet >> piece & 1;
    }

    public int turned(int set) {
        if ((set & ~((1 << plan.pieces) - 1)) != 0) {
            return OUTSIDE;
        }
        packIfStale();
        return cars.turnedBy(set);
    }

    // ---- reports

    public int report(int mill, int wood, int packer, int road, boolean bad) {
        if (isOutside(mill, 0, 3) || isOutside(wood, 0, 3) || isOutside(packer, 0, 3) || isOutside(road, 0, 3)) {
            return OUTSIDE;
        }
        if (reports.told >= MOST_REPORTS) {
            return FULL;
        }
        return reports.addReport(mill, wood, packer, road, bad);
    }

    public int sure(int v) {
        if (isOutside(v, 0, 100)) {
            return OUTSIDE;
        }
        int was = reports.share;
        reports.share = v;
        reports.stale = true;
        return was;
    }

    public int explains(int cause, boolean bad) {
        if (isOutside(cause, 0, CAUSES - 1)) {
            return OUTSIDE;
        }
        return bad ? reports.badWith(cause) : reports.allWith(cause);
    }

    public int likely(int cause) {
        if (isOutside(cause, 0, CAUSES - 1)) {
            return OUTSIDE;
        }
        return reports.suspects(cause) ? 1 : 0;
    }

    public int causes() {
        reports.seekIfStale();
        return reports.fewest;
    }

    public int cause(int i) {
        reports.seekIfStale();
        return isOutside(i, 0, reports.fewest - 1) ? NONE : reports.chosen[i];
    }

    // ---- loans

    public int pass(int n) {
        if (isOutside(n, 1, 60)) {
            return OUTSIDE;
        }
        if (books.month + n > LAST_MONTH) {
            return FULL;
        }
        for (int i = 0; i < n; i++) {
            books.nextMonth();
        }
        return books.month;
    }

    public int loan(int sum, int rate, int part) {
        if (isOutside(sum, 1, 100000) || isOutside(rate, 0, 50) || isOutside(part, 1, 10000)) {
            return OUTSIDE;
        }
        if (books.lent >= MOST_LOANS) {
            return FULL;
        }
        return books.lend(sum, rate, part);
    }

    public int pay(int loan, int v) {
        Loan one = books.loanOf(loan);
        if (one == null) {
            return UNKNOWN;
        }
        if (isOutside(v, 1, 100000)) {
            return OUTSIDE;
        }
        return one.isOpen() ? one.payIn(v, books.month) : STATE;
    }

    public int work(int loan, boolean has) {
        Loan one = books.loanOf(loan);
        if (one == null) {
            return UNKNOWN;
        }
        int was = one.now.works ? 1 : 0;
        one.now.works = has;
        return was;
    }

    public long as(int loan, int month, int what) {
        Loan one = books.loanOf(loan);
        if (one == null) {
            return UNKNOWN;
        }
        if (isOutside(month, 0, books.month)) {
            return OUTSIDE;
        }
        switch (what) {
            case 0:
                return one.owedIn(month);
            case 1:
                return one.dueIn(month);
            case 2:
                return one.howIn(month);
            default:
                return OUTSIDE;
        }
    }

    public int arrears(int loan) {
        Loan one = books.loanOf(loan);
        return one == null ? UNKNOWN : (int) one.now.partsDue();
    }

    public int term(int month) {
        if (isOutside(month, 0, LAST_MONTH)) {
            return OUTSIDE;
        }
        return books.agreed >= MOST_TERMS ? FULL : books.agree(month);
    }

    public int feed(int term, long bytes) {
        Term one = books.termOf(term);
        if (one == null) {
            return UNKNOWN;
        }
        return one.takeBytes(bytes) ? one.size : FULL;
    }

    public int fault(int term) {
        Term one = books.termOf(term);
        return one == null ? UNKNOWN : one.wrongAt;
    }

    public int force(int month) {
        return isOutside(month, 0, LAST_MONTH) ? OUTSIDE : books.termIn(month);
    }

    public int may(int loan) {
        Loan one = books.loanOf(loan);
        if (one == null) {
            return UNKNOWN;
        }
        return books.allowsNow(one) ? 1 : 0;
    }

    public long takeBack(int loan) {
        Loan one = books.loanOf(loan);
        if (one == null) {
            return UNKNOWN;
        }
        if (!books.allowsNow(one)) {
            return STATE;
        }
        one.close(Loan.TAKEN_BACK, books.month);
        return one.now.owed;
    }

    public int soon(int loan) {
        Loan one = books.loanOf(loan);
        if (one == null) {
            return UNKNOWN;
        }
        return one.isOpen() ? books.monthsUntilAllowed(one) : STATE;
    }

    public int count(int what) {
        switch (what) {
            case 0:
                return plan.pieces;
            case 1:
                return plan.meetings;
            case 2:
                return reports.told;
            case 3:
                return books.lent;
            case 4:
                return books.openLoans();
            case 5:
                return books.agreed;
            case 6:
                return books.month;
            case 7:
                return plan.span;
            default:
                return OUTSIDE;
        }
    }

    private static boolean isOutside(int v, int least, int most) {
        return v < least || v > most;
    }

    private static boolean isNoStretch(int line, int by) {
        return isOutside(line, 0, FARTHEST) || isOutside(by, 1, 100);
    }

    private void forgetLengths() {
        cut.stale = true;
        cars.stale = true;
    }

    /** Whether there is a best cut: it is sought anew only if something that it hangs on has changed. */
    private boolean isCut() {
        if (cut.stale) {
            cut.seekBest(plan.pieces, plan.size);
            cut.stale = false;
        }
        return cut.possible;
    }

    private void packIfStale() {
        if (cars.stale) {
            leaning.lineUp(plan.pieces);
            cars.seekBest(plan.pieces, plan.size, leaning.row);
            cars.stale = false;
        }
    }

    /** Where the pieces are, and which of their ends meet. */
    private static final class Plan {
        int span = 100;
        int pieces = 0;
        int meetings = 0;
        final int[] left = new int[MOST_PIECES];
        final int[] size = new int[MOST_PIECES];
        final int[] height = new int[MOST_PIECES];
        final boolean[] rigid = new boolean[MOST_PIECES];
        final int[] one = new int[MOST_MEETINGS];
        final int[] oneEnd = new int[MOST_MEETINGS];
        final int[] two = new int[MOST_MEETINGS];
        final int[] twoEnd = new int[MOST_MEETINGS];

        boolean has(int piece) {
            return piece >= 0 && piece < pieces;
        }

        int addPiece(int place, int length, int level, boolean fixed) {
            int number = pieces;
            left[number] = place;
            size[number] = length;
            height[number] = level;
            rigid[number] = fixed;
            pieces = number + 1;
            return number;
        }

        int addMeeting(int a, int end, int b, int otherEnd) {
            int number = meetings;
            one[number] = a;
            oneEnd[number] = end;
            two[number] = b;
            twoEnd[number] = otherEnd;
            meetings = number + 1;
            return number;
        }

        boolean holds(int meeting) {
            return endOf(one[meeting], oneEnd[meeting]) == endOf(two[meeting], twoEnd[meeting]);
        }

        boolean canTurnRound() {
            for (int p = 0; p < pieces; p++) {
                if (span - endOf(p, 1) < 0) {
                    return false;
                }
            }
            return true;
        }

        int turnRound() {
            int moved = 0;
            for (int p = 0; p < pieces; p++) {
                int place = span - endOf(p, 1);
                if (place != left[p]) {
                    moved++;
                }
                left[p] = place;
            }
            for (int m = 0; m < meetings; m++) {
                oneEnd[m] = 1 - oneEnd[m];
                twoEnd[m] = 1 - twoEnd[m];
            }
            return moved;
        }

        /** 0 if nothing hinders the stretch, else the number that tells why. */
        int hindrance(int line, int by) {
            for (int p = 0; p < pieces; p++) {
                if (rigid[p] && isAcross(p, line)) {
                    return 100 + p;
                }
            }
            for (int m = 0; m < meetings; m++) {
                if (holds(m) && !wouldHold(m, line, by)) {
                    return 200 + m;
                }
            }
            return wouldBeTooMuch(line, by) ? 300 : 0;
        }

        int pullApart(int line, int by) {
            int longer = 0;
            for (int p = 0; p < pieces; p++) {
                if (isAcross(p, line)) {
                    size[p] += by;
                    longer++;
                } else if (left[p] >= line) {
                    left[p] += by;
                }
            }
            if (line <= span) {
                span += by;
            }
            return longer;
        }

        private int endOf(int piece, int end) {
            return end == 0 ? left[piece] : left[piece] + size[piece];
        }

        private boolean isAcross(int piece, int line) {
            return left[piece] < line && endOf(piece, 1) > line;
        }

        private boolean wouldHold(int meeting, int line, int by) {
            return endAfter(one[meeting], oneEnd[meeting], line, by)
                    == endAfter(two[meeting], twoEnd[meeting], line, by);
        }

        /** A left end moves from the line on, a right end only behind it: at the line its piece stays. */
        private int endAfter(int piece, int end, int line, int by) {
            int at = endOf(piece, end);
            boolean moves = end == 0 ? at >= line : at > line;
            return moves ? at + by : at;
        }

        private boolean wouldBeTooMuch(int line, int by) {
            for (int p = 0; p < pieces; p++) {
                if (isAcross(p, line) && size[p] + by > LONGEST) {
                    return true;
                }
                if (endAfter(p, 0, line, by) > FARTHEST) {
                    return true;
                }
            }
            return line <= span && span + by > FARTHEST;
        }
    }

    /** Which piece leans on which (a set of bits for each), and the order of building. */
    private static final class Leaning {
        final int[] on = new int[MOST_PIECES];
        final int[] row = new int[MOST_PIECES];

        boolean put(int a, int b, boolean is) {
            boolean was = (on[a] >> b & 1) != 0;
            on[a] = is ? on[a] | 1 << b : on[a] & ~(1 << b);
            return was;
        }

        boolean rests(int piece, int upon) {
            return (allBelow(piece) >> upon & 1) != 0;
        }

        /** The set of all on which a piece leans: a way down has fewer steps than there are pieces. */
        int allBelow(int piece) {
            int found = on[piece];
            for (int step = 1; step < MOST_PIECES; step++) {
                int more = found;
                for (int p = 0; p < MOST_PIECES; p++) {
                    if ((found >> p & 1) != 0) {
                        more |= on[p];
                    }
                }
                if (more == found) {
                    return found;
                }
                found = more;
            }
            return found;
        }

        /** Nothing leans on itself round about, so there is always one that comes next. */
        void lineUp(int pieces) {
            int built = 0;
            for (int i = 0; i < pieces; i++) {
                int next = firstReady(built, pieces);
                row[i] = next;
                built |= 1 << next;
            }
        }

        private int firstReady(int built, int pieces) {
            for (int p = 0; p < pieces; p++) {
                if ((built >> p & 1) == 0 && (on[p] & ~built) == 0) {
                    return p;
                }
            }
            return 0;
        }
    }

    /**
     * The best cut. A set of pieces is worth one number, made of its price, its boards and the board
     * of each piece as a digit, the first piece's digit highest: so the least number is the best cut,
     * ties and all, and the best of a set is one board with its first piece and the best of the others.
     */
    private static final class Cut {
        private static final int DIGITS = 12;
        /** Prices and boards stand above the eleven digits (the first piece's board is always 0). */
        private static final long ABOVE_DIGITS = 743008370688L;
        /** A price stands above the number of boards, which is 12 at most. */
        private static final int ABOVE_BOARDS = 13;

        final int[] sortLength = new int[SORTS];
        final int[] sortPrice = new int[SORTS];
        int loss = 1;
        boolean stale = true;
        boolean possible = false;
        int total = 0;
        int used = 0;
        final int[] from = new int[MOST_PIECES];
        final int[] sortOf = new int[MOST_PIECES];
        final int[] rest = new int[MOST_PIECES];
        /** Of each set but the empty one, what it costs to cut it from one board; below 0: none is long enough. */
        private final int[] oneBoard = new int[1 << MOST_PIECES];
        /** Of each set, the best cut's number as it counts behind one board more; the empty set's stays 0. */
        private final long[] behind = new long[1 << MOST_PIECES];

        void seekBest(int pieces, int[] size) {
            possible = true;
            for (int p = 0; p < pieces; p++) {
                if (cheapestSort(size[p]) < 0) {
                    possible = false;
                }
            }
            if (possible) {
                weighBoards(pieces, size);
                readDigits(bestNumber(pieces));
                describeBoards(pieces, size);
            }
        }

        int shortestRest(int length) {
            int found = NONE;
            for (int b = 0; b < used; b++) {
                if (rest[b] >= length && (found == NONE || rest[b] < rest[found])) {
                    found = b;
                }
            }
            return found;
        }

        private int cheapestSort(int length) {
            int found = -1;
            for (int s = 0; s < SORTS; s++) {
                if (sortLength[s] >= length && (found < 0 || sortPrice[s] < sortPrice[found])) {
                    found = s;
                }
            }
            return found;
        }

        private void weighBoards(int pieces, int[] size) {
            for (int p = 0; p < pieces; p++) {
                int bit = 1 << p;
                for (int set = 0; set < bit; set++) {
                    oneBoard[bit | set] = oneBoard[set] + size[p] + loss;
                }
            }
            int sets = 1 << pieces;
            for (int set = 1; set < sets; set++) {
                int sort = cheapestSort(oneBoard[set] - loss);
                oneBoard[set] = sort < 0 ? -1 : sortPrice[sort] * ABOVE_BOARDS + 1;
            }
        }

        /** What is left behind a board never has piece 0, so of sets with it only the whole is looked at. */
        private long bestNumber(int pieces) {
            if (pieces == 0) {
                return 0;
            }
            int all = (1 << pieces) - 1;
            for (int set = 2; set < all; set += 2) {
                behind[set] = leastNumber(set) + oneForEach(set);
            }
            return leastNumber(all);
        }

        private long leastNumber(int set) {
            int first = set & -set;
            int others = set ^ first;
            long least = oneBoard[first] * ABOVE_DIGITS + behind[others];
            for (int more = others; more > 0; more = (more - 1) & others) {
                int cost = oneBoard[first | more];
                long number = cost * ABOVE_DIGITS + behind[others ^ more];
                if (cost >= 0 && number < least) {
                    least = number;
                }
            }
            return least;
        }

        /** A 1 in the digit of each piece of the set: behind one board more, each board's number is one more. */
        private static long oneForEach(int set) {
            long digits = 0;
            for (int p = 1; p < MOST_PIECES; p++) {
                digits = digits * DIGITS + (set >> p & 1);
            }
            return digits;
        }

        private void readDigits(long number) {
            int head = (int) (number / ABOVE_DIGITS);
            total = head / ABOVE_BOARDS;
            used = head % ABOVE_BOARDS;
            long digits = number % ABOVE_DIGITS;
            for (int p = MOST_PIECES - 1; p >= 0; p--) {
                from[p] = (int) (digits % DIGITS);
                digits /= DIGITS;
            }
        }

        private void describeBoards(int pieces, int[] size) {
            for (int b = 0; b < used; b++) {
                int length = -loss;
                for (int p = 0; p < pieces; p++) {
                    if (from[p] == b) {
                        length += size[p] + loss;
                    }
                }
                int sort = cheapestSort(length);
                sortOf[b] = sort;
                rest[b] = sort < 0 ? 0 : Math.max(0, sortLength[sort] - length - loss);
            }
        }
    }

    /** The best packing: pieces lie in a car with the lower number on top. */
    private static final class Cars {
        final int[] room = {600, 600};
        boolean stale = true;
        int fewest = NONE;
        int bestSet = 0;
        private int pieces = 0;
        private final int[] size = new int[MOST_PIECES];
        /** Of each piece the set of those that are turned over to take it out, if they are in its car. */
        private final int[] onTop = new int[MOST_PIECES];
        private final int[] load = new int[2];

        void seekBest(int many, int[] sizes, int[] order) {
            pieces = many;
            int taken = 0;
            for (int i = 0; i < many; i++) {
                int p = order[i];
                size[p] = sizes[p];
                onTop[p] = (1 << p) - 1 & ~taken;
                taken |= 1 << p;
            }
            load[0] = 0;
            load[1] = 0;
            fewest = NONE;
            placeFrom(0, 0, 0);
        }

        int turnedBy(int set) {
            int sum = 0;
            load[0] = 0;
            load[1] = 0;
            for (int p = 0; p < pieces; p++) {
                int car = set >> p & 1;
                load[car] += size[p];
                sum += turnedFor(p, car, set);
            }
            return load[0] > room[0] || load[1] > room[1] ? NONE : sum;
        }

        /** Car 0 is tried first and only a lesser sum is better, so the first of like ones stays. */
        private void placeFrom(int piece, int set, int sum) {
            if (fewest != NONE && sum >= fewest) {
                return;
            }
            if (piece >= pieces) {
                fewest = sum;
                bestSet = set;
                return;
            }
            for (int car = 0; car < 2; car++) {
                if (load[car] + size[piece] <= room[car]) {
                    load[car] += size[piece];
                    placeFrom(piece + 1, set | car << piece, sum + turnedFor(piece, car, set));
                    load[car] -= size[piece];
                }
            }
        }

        private int turnedFor(int piece, int car, int set) {
            return Integer.bitCount(onTop[piece] & (car == 0 ? ~set : set));
        }
    }

    /** Reports as sets of bits: those that have each cause, and the bad ones. */
    private static final class Reports {
        int told = 0;
        int share = 50;
        boolean stale = true;
        int fewest = 0;
        final int[] chosen = new int[CAUSES];
        private long badOnes = 0;
        private final long[] having = new long[CAUSES];
        /** Of each cause the bad reports that it may stand for: none, if it is not likely. */
        private final long[] covers = new long[CAUSES];
        /** Of each cause what it and all behind it cover together; behind the last nothing. */
        private final long[] coversOn = new long[CAUSES + 1];

        int addReport(int mill, int wood, int packer, int road, boolean bad) {
            int number = told;
            long bit = 1L << number;
            having[mill] |= bit;
            having[4 + wood] |= bit;
            having[8 + packer] |= bit;
            having[12 + road] |= bit;
            if (bad) {
                badOnes |= bit;
            }
            told = number + 1;
            stale = true;
            return number;
        }

        int allWith(int cause) {
            return Long.bitCount(having[cause]);
        }

        int badWith(int cause) {
            return Long.bitCount(having[cause] & badOnes);
        }

        boolean suspects(int cause) {
            int bad = badWith(cause);
            return bad > 0 && bad * 100 >= share * allWith(cause);
        }

        void seekIfStale() {
            if (stale) {
                seekFewest();
                stale = false;
            }
        }

        private void seekFewest() {
            for (int c = CAUSES - 1; c >= 0; c--) {
                covers[c] = suspects(c) ? having[c] & badOnes : 0;
                coversOn[c] = covers[c] | coversOn[c + 1];
            }
            fewest = NONE;
            for (int most = 0; most <= CAUSES && fewest == NONE; most++) {
                if (isCoveredFrom(0, 0, most, 0)) {
                    fewest = most;
                }
            }
        }

        /** One that covers nothing new is never among the fewest. */
        private boolean isCoveredFrom(int cause, int taken, int most, long covered) {
            if (covered == badOnes) {
                return true;
            }
            if (taken >= most || (covered | coversOn[cause]) != badOnes) {
                return false;
            }
            for (int c = cause; c < CAUSES; c++) {
                if ((covers[c] & ~covered) != 0) {
                    chosen[taken] = c;
                    if (isCoveredFrom(c + 1, taken + 1, most, covered | covers[c])) {
                        return true;
                    }
                }
            }
            return false;
        }
    }

    /** What a loan comes to. It is apart from the loan so that a copy can go on by itself. */
    private static final class Standing {
        long owed = 0;
        long due = 0;
        int rate = 0;
        int part = 1;
        boolean works = true;

        void copyFrom(Standing that) {
            owed = that.owed;
            due = that.due;
            rate = that.rate;
            part = that.part;
            works = that.works;
        }

        /** What is owed times the rate may be above the longs, so the thousands are taken by themselves. */
        void growByMonth() {
            owed += owed / 1000 * rate + owed % 1000 * rate / 1000;
            due = Math.min(due + part, owed);
        }

        long partsDue() {
            return part > 0 ? due / part : 0;
        }

        long valueOf(int letter, int months) {
            switch (letter) {
                case 'a':
                    return partsDue();
                case 'd':
                    return due;
                case 'o':
                    return owed;
                case 'm':
                    return months;
                default:
                    return works ? 1 : 0;
            }
        }
    }

    /** A loan, and what it came to in the end of each month until it was closed. */
    private static final class Loan {
        static final int OPEN = 1;
        static final int PAID_OFF = 2;
        static final int TAKEN_BACK = 3;

        final int since;
        final Standing now = new Standing();
        private int how = OPEN;
        private int closedIn = LAST_MONTH;
        private final long[] owedAt = new long[LAST_MONTH + 1];
        private final long[] dueAt = new long[LAST_MONTH + 1];

        Loan(int month, int sum, int rate, int part) {
            since = month;
            now.owed = sum;
            now.rate = rate;
            now.part = part;
            owedAt[month] = sum;
        }

        boolean isOpen() {
            return how == OPEN;
        }

        void grow(int month) {
            now.growByMonth();
            writeDown(month);
        }

        int payIn(int v, int month) {
            long taken = Math.min(v, now.owed);
            now.owed -= taken;
            now.due = Math.max(0, now.due - taken);
            writeDown(month);
            if (now.owed == 0) {
                close(PAID_OFF, month);
            }
            return (int) taken;
        }

        void close(int as, int month) {
            how = as;
            closedIn = month;
        }

        long owedIn(int month) {
            return month < since ? 0 : owedAt[Math.min(month, closedIn)];
        }

        long dueIn(int month) {
            return month < since ? 0 : dueAt[Math.min(month, closedIn)];
        }

        int howIn(int month) {
            if (month < since) {
                return 0;
            }
            return month < closedIn ? OPEN : how;
        }

        private void writeDown(int month) {
            owedAt[month] = now.owed;
            dueAt[month] = now.due;
        }
    }

    /** The text of a term: where it goes wrong, and what it says of a loan. */
    private static final class Term {
        private static final int WANTS_ONE = 0;
        private static final int WANTS_SIGN = 1;
        private static final int WANTS_NUMBER = 2;
        private static final int IN_NUMBER = 3;
        private static final int WANTS_JOIN = 4;
        private static final int WRONG = 5;
        private static final int MOST_DIGITS = 5;

        final int from;
        int size = 0;
        int wrongAt = 0;
        private final byte[] text = new byte[MOST_BYTES];
        private int open = 0;
        private int digits = 0;

        Term(int month) {
            from = month;
        }

        boolean takeBytes(long bytes) {
            int many = 0;
            while (many < 8 && (bytes >>> 8 * many & 255) != 0) {
                many++;
            }
            if (size + many > MOST_BYTES) {
                return false;
            }
            for (int i = 0; i < many; i++) {
                text[size + i] = (byte) (bytes >>> 8 * i);
            }
            size += many;
            wrongAt = findWrong();
            return true;
        }

        /** Only a term that does not go wrong is asked. */
        boolean saysOf(Standing loan, int months, Verdict verdict) {
            verdict.begin();
            for (int i = 0; i < size; i++) {
                int sign = text[i];
                if (sign == '!') {
                    verdict.negate();
                } else if (sign == '|') {
                    verdict.beginAll();
                } else if (sign == '(') {
                    verdict.enter();
                } else if (sign == ')') {
                    verdict.leave();
                } else if (isLetter(sign)) {
                    verdict.take(compares(i, loan, months));
                }
            }
            return verdict.isTrue();
        }

        private int findWrong() {
            int wants = WANTS_ONE;
            open = 0;
            for (int i = 0; i < size; i++) {
                wants = wantsAfter(wants, text[i]);
                if (wants == WRONG) {
                    return i;
                }
            }
            boolean isWhole = open == 0 && (wants == IN_NUMBER || wants == WANTS_JOIN);
            return isWhole ? NONE : size;
        }

        private int wantsAfter(int wants, int sign) {
            if (sign == ' ') {
                return wants == IN_NUMBER ? WANTS_JOIN : wants;
            }
            switch (wants) {
                case WANTS_ONE:
                    return afterStart(sign);
                case WANTS_SIGN:
                    return sign == '<' || sign == '=' || sign == '>' ? WANTS_NUMBER : WRONG;
                case WANTS_NUMBER:
                    digits = 0;
                    return isDigit(sign) ? afterDigit() : WRONG;
                case IN_NUMBER:
                    return isDigit(sign) ? afterDigit() : afterOne(sign);
                default:
                    return afterOne(sign);
            }
        }

        private int afterStart(int sign) {
            if (sign == '!') {
                return WANTS_ONE;
            }
            if (sign == '(') {
                open++;
                return WANTS_ONE;
            }
            return isLetter(sign) ? WANTS_SIGN : WRONG;
        }

        private int afterDigit() {
            digits++;
            return digits > MOST_DIGITS ? WRONG : IN_NUMBER;
        }

        private int afterOne(int sign) {
            if (sign == '&' || sign == '|') {
                return WANTS_ONE;
            }
            if (sign == ')' && open > 0) {
                open--;
                return WANTS_JOIN;
            }
            return WRONG;
        }

        private boolean compares(int at, Standing loan, int months) {
            long value = loan.valueOf(text[at], months);
            int sign = 0;
            int number = 0;
            for (int i = at + 1; i < size && !isEndOfOne(text[i]); i++) {
                if (isDigit(text[i])) {
                    number = number * 10 + text[i] - '0';
                } else if (text[i] != ' ') {
                    sign = text[i];
                }
            }
            if (sign == '<') {
                return value < number;
            }
            return sign == '>' ? value > number : value == number;
        }

        private static boolean isEndOfOne(int sign) {
            return sign == '&' || sign == '|' || sign == ')';
        }

        private static boolean isDigit(int sign) {
            return sign >= '0' && sign <= '9';
        }

        private static boolean isLetter(int sign) {
            return sign == 'a' || sign == 'd' || sign == 'o' || sign == 'm' || sign == 'w';
        }
    }

    /** A term's worth as it is read. Each depth of brackets is a bit: 60 bytes go no deeper than the bits. */
    private static final class Verdict {
        /** Whether an ALL that has ended was true. */
        private long any = 0;
        /** Whether all of the ALL that goes on has been true. */
        private long all = 0;
        /** Whether what comes next is turned round. */
        private long not = 0;
        private int depth = 0;

        void begin() {
            any = 0;
            all = 1;
            not = 0;
            depth = 0;
        }

        void negate() {
            not ^= 1L << depth;
        }

        void beginAll() {
            any |= all & 1L << depth;
            all |= 1L << depth;
        }

        void enter() {
            depth++;
            any &= ~(1L << depth);
            all |= 1L << depth;
        }

        void leave() {
            boolean inside = isTrue();
            depth--;
            take(inside);
        }

        void take(boolean value) {
            boolean turnedRound = (not >> depth & 1) != 0;
            if (value == turnedRound) {
                all &= ~(1L << depth);
            }
            not &= ~(1L << depth);
        }

        boolean isTrue() {
            return ((any | all) >> depth & 1) != 0;
        }
    }

    /** The month, the loans and the terms. */
    private static final class Books {
        private static final int FARTHEST_LOOK = 120;

        int month = 0;
        int lent = 0;
        int agreed = 0;
        private final Loan[] loans = new Loan[MOST_LOANS];
        private final Term[] terms = new Term[MOST_TERMS];
        private final Standing goingOn = new Standing();
        private final Verdict verdict = new Verdict();

        Loan loanOf(int number) {
            return number >= 0 && number < lent ? loans[number] : null;
        }

        Term termOf(int number) {
            return number >= 0 && number < agreed ? terms[number] : null;
        }

        int lend(int sum, int rate, int part) {
            int number = lent;
            loans[number] = new Loan(month, sum, rate, part);
            lent = number + 1;
            return number;
        }

        int agree(int from) {
            int number = agreed;
            terms[number] = new Term(from);
            agreed = number + 1;
            return number;
        }

        void nextMonth() {
            month++;
            for (int i = 0; i < lent; i++) {
                Loan one = loans[i];
                if (one != null && one.isOpen()) {
                    one.grow(month);
                }
            }
        }

        int openLoans() {
            int open = 0;
            for (int i = 0; i < lent; i++) {
                Loan one = loans[i];
                if (one != null && one.isOpen()) {
                    open++;
                }
            }
            return open;
        }

        int termIn(int when) {
            int found = NONE;
            int latest = 0;
            for (int t = 0; t < agreed; t++) {
                Term one = terms[t];
                if (one != null && one.wrongAt == NONE && one.from <= when && one.from >= latest) {
                    found = t;
                    latest = one.from;
                }
            }
            return found;
        }

        boolean allowsNow(Loan loan) {
            return loan.isOpen() && allows(loan.now, month, loan.since);
        }

        int monthsUntilAllowed(Loan loan) {
            goingOn.copyFrom(loan.now);
            int most = Math.min(FARTHEST_LOOK, LAST_MONTH - month);
            for (int ahead = 0; ahead <= most; ahead++) {
                if (allows(goingOn, month + ahead, loan.since)) {
                    return ahead;
                }
                goingOn.growByMonth();
            }
            return NONE;
        }

        private boolean allows(Standing standing, int when, int since) {
            Term inForce = termOf(termIn(when));
            return inForce != null && inForce.saysOf(standing, when - since, verdict);
        }
    }
}
