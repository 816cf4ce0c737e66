import java.math.BigInteger;
import java.util.ArrayList;
import java.util.List;

/**
 * The document read once more, from its first line, with no eye on speed: nothing that could be reckoned is kept, every
 * answer is reckoned anew from what has been told, by trying all that there are. The calls are the face's.
 */
final class Reading {
    private static final int UNKNOWN = Due.UNKNOWN, OUTSIDE = Due.OUTSIDE, STATE = Due.STATE, FULL = Due.FULL, NONE = Due.NONE;

    private record Piece(int place, int length, int level, boolean fixed) {
        int end(int which) {
            return which == 0 ? place : place + length;
        }
    }

    private record Meeting(int a, int end, int b, int other) {
        boolean holds(List<Piece> among) {
            return among.get(a).end(end) == among.get(b).end(other);
        }
    }

    private record Report(int[] has, boolean bad) {
    }

    private int width = 100;
    private List<Piece> pieces = new ArrayList<>();
    private List<Meeting> meetings = new ArrayList<>();
    private final boolean[][] leans = new boolean[12][12];
    private final int[] sortLength = new int[4];
    private final int[] sortPrice = new int[4];
    private int saw = 1;
    private final int[] holds = {600, 600};
    private final List<Report> reports = new ArrayList<>();
    private int sure = 50;
    private final Ledger ledger = new Ledger();

    private static boolean within(int v, int least, int most) {
        return least <= v && v <= most;
    }

    private boolean isPiece(int p) {
        return within(p, 0, pieces.size() - 1);
    }

    // ---- plans

    int width(int v) {
        if (!within(v, 1, 400)) {
            return OUTSIDE;
        }
        int was = width;
        width = v;
        return was;
    }

    int piece(int place, int length, int level, boolean fixed) {
        if (!within(place, 0, 400) || !within(length, 1, 200) || !within(level, 0, 9)) {
            return OUTSIDE;
        }
        if (pieces.size() == 12) {
            return FULL;
        }
        pieces.add(new Piece(place, length, level, fixed));
        return pieces.size() - 1;
    }

    int about(int piece, int what) {
        if (!isPiece(piece)) {
            return UNKNOWN;
        }
        Piece p = pieces.get(piece);
        return within(what, 0, 3) ? new int[] {p.place, p.length, p.level, p.fixed ? 1 : 0}[what] : OUTSIDE;
    }

    int meet(int a, int end, int b, int other) {
        if (!isPiece(a) || !isPiece(b)) {
            return UNKNOWN;
        }
        if (!within(end, 0, 1) || !within(other, 0, 1)) {
            return OUTSIDE;
        }
        if (a == b) {
            return STATE;
        }
        if (meetings.size() == 20) {
            return FULL;
        }
        meetings.add(new Meeting(a, end, b, other));
        return meetings.size() - 1;
    }

    int apart() {
        for (Meeting m : meetings) {
            if (!m.holds(pieces)) {
                return meetings.indexOf(m);
            }
        }
        return NONE;
    }

    int mirror() {
        List<Piece> then = new ArrayList<>();
        int moved = 0;
        for (Piece p : pieces) {
            int place = width - p.end(1);
            if (place < 0) {
                return STATE;
            }
            moved += place == p.place ? 0 : 1;
            then.add(new Piece(place, p.length, p.level, p.fixed));
        }
        pieces = then;
        List<Meeting> turned = new ArrayList<>();
        for (Meeting m : meetings) {
            turned.add(new Meeting(m.a, m.end == 0 ? 1 : 0, m.b, m.other == 0 ? 1 : 0));
        }
        meetings = turned;
        return moved;
    }

    private List<Piece> stretched(int line, int by) {
        List<Piece> then = new ArrayList<>();
        for (Piece p : pieces) {
            if (p.end(0) >= line) {
                then.add(new Piece(p.place + by, p.length, p.level, p.fixed));
            } else if (p.end(1) <= line) {
                then.add(p);
            } else {
                then.add(new Piece(p.place, p.length + by, p.level, p.fixed));
            }
        }
        return then;
    }

    int stretch(int line, int by) {
        int why = why(line, by);
        if (why != 0) {
            return why == OUTSIDE ? OUTSIDE : STATE;
        }
        List<Piece> then = stretched(line, by);
        int longer = 0;
        for (int p = 0; p < pieces.size(); p++) {
            longer += then.get(p).length > pieces.get(p).length ? 1 : 0;
        }
        pieces = then;
        width = line <= width ? width + by : width;
        return longer;
    }

    int why(int line, int by) {
        if (!within(line, 0, 400) || !within(by, 1, 100)) {
            return OUTSIDE;
        }
        List<Piece> then = stretched(line, by);
        for (int p = 0; p < pieces.size(); p++) {
            if (pieces.get(p).fixed && then.get(p).length != pieces.get(p).length) {
                return 100 + p;
            }
        }
        for (int m = 0; m < meetings.size(); m++) {
            if (meetings.get(m).holds(pieces) && !meetings.get(m).holds(then)) {
                return 200 + m;
            }
        }
        for (Piece p : then) {
            if (p.length > 200 || p.place > 400) {
                return 300;
            }
        }
        return line <= width && width + by > 400 ? 300 : 0;
    }

    private void gather(int piece, boolean[] found) {
        for (int p = 0; p < 12; p++) {
            if (leans[piece][p] && !found[p]) {
                found[p] = true;
                gather(p, found);
            }
        }
    }

    int lean(int a, int b, boolean is) {
        if (!isPiece(a) || !isPiece(b)) {
            return UNKNOWN;
        }
        boolean was = leans[a][b];
        leans[a][b] = is;
        boolean[] found = new boolean[12];
        gather(a, found);
        if (found[a]) {
            leans[a][b] = was;
            return STATE;
        }
        return was ? 1 : 0;
    }

    private List<Integer> order() {
        List<Integer> built = new ArrayList<>();
        while (built.size() < pieces.size()) {
            for (int p = 0; p < pieces.size(); p++) {
                boolean ready = !built.contains(p);
                for (int q = 0; q < pieces.size(); q++) {
                    ready &= !leans[p][q] || built.contains(q);
                }
                if (ready) {
                    built.add(p);
                    break;
                }
            }
        }
        return built;
    }

    int order(int i) {
        return isPiece(i) ? order().get(i) : NONE;
    }

    int below(int piece) {
        if (!isPiece(piece)) {
            return UNKNOWN;
        }
        boolean[] found = new boolean[12];
        gather(piece, found);
        int many = 0;
        for (boolean f : found) {
            many += f ? 1 : 0;
        }
        return many;
    }

    // ---- boards

    private final class Cuts {
        final int[] now = new int[pieces.size()];
        int[] best = null;
        int bestPrice = 0;
        int bestBoards = 0;

        Cuts() {
            go(0, 0);
        }

        /** Cuts come in the order of their numbers, so that of like ones the first stays. */
        void go(int piece, int boards) {
            if (piece == now.length) {
                weigh(boards);
                return;
            }
            for (int b = 0; b <= boards; b++) {
                now[piece] = b;
                go(piece + 1, Math.max(boards, b + 1));
            }
        }

        void weigh(int boards) {
            int price = 0;
            for (int b = 0; b < boards; b++) {
                int sort = sortOf(now, b);
                if (sort < 0) {
                    return;
                }
                price += sortPrice[sort];
            }
            if (best == null || price < bestPrice || price == bestPrice && boards < bestBoards) {
                best = now.clone();
                bestPrice = price;
                bestBoards = boards;
            }
        }

        int lengthOf(int[] cut, int board) {
            int length = 0;
            int many = 0;
            for (int p = 0; p < cut.length; p++) {
                length += cut[p] == board ? pieces.get(p).length : 0;
                many += cut[p] == board ? 1 : 0;
            }
            return length + (many - 1) * saw;
        }

        int sortOf(int[] cut, int board) {
            int found = -1;
            for (int s = 0; s < 4; s++) {
                boolean enough = sortLength[s] > 0 && sortLength[s] >= lengthOf(cut, board);
                if (enough && (found < 0 || sortPrice[s] < sortPrice[found])) {
                    found = s;
                }
            }
            return found;
        }

        int left(int board) {
            int over = sortLength[sortOf(best, board)] - lengthOf(best, board);
            return over > 0 ? Math.max(over - saw, 0) : 0;
        }
    }

    int sort(int sort, int length, int price) {
        if (!within(sort, 0, 3)) {
            return UNKNOWN;
        }
        if (!within(length, 0, 400) || !within(price, 0, 9999)) {
            return OUTSIDE;
        }
        int had = sortLength[sort];
        sortLength[sort] = length;
        sortPrice[sort] = price;
        return had;
    }

    int saw(int v) {
        if (!within(v, 0, 9)) {
            return OUTSIDE;
        }
        int lost = saw;
        saw = v;
        return lost;
    }

    int price() {
        Cuts cuts = new Cuts();
        return cuts.best == null ? NONE : cuts.bestPrice;
    }

    int boards() {
        Cuts cuts = new Cuts();
        return cuts.best == null ? NONE : cuts.bestBoards;
    }

    int board(int piece) {
        if (!isPiece(piece)) {
            return UNKNOWN;
        }
        Cuts cuts = new Cuts();
        return cuts.best == null ? NONE : cuts.best[piece];
    }

    int ofBoard(int board, int what) {
        Cuts cuts = new Cuts();
        if (cuts.best == null || !within(board, 0, cuts.bestBoards - 1)) {
            return UNKNOWN;
        }
        if (!within(what, 0, 1)) {
            return OUTSIDE;
        }
        return what == 0 ? cuts.sortOf(cuts.best, board) : cuts.left(board);
    }

    int other(int length) {
        if (!within(length, 1, 400)) {
            return OUTSIDE;
        }
        Cuts cuts = new Cuts();
        int boards = cuts.best == null ? 0 : cuts.bestBoards;
        for (int left = length; left <= 400; left++) {
            for (int b = 0; b < boards; b++) {
                if (cuts.left(b) == left) {
                    return b;
                }
            }
        }
        return NONE;
    }

    // ---- cars

    int car(int car, int v) {
        if (!within(car, 0, 1)) {
            return UNKNOWN;
        }
        if (!within(v, 1, 3000)) {
            return OUTSIDE;
        }
        int held = holds[car];
        holds[car] = v;
        return held;
    }

    private static boolean inCarOne(int set, int piece) {
        return (set & 1 << piece) != 0;
    }

    int turned(int set) {
        int n = pieces.size();
        for (int bit = n; bit < 32; bit++) {
            if (inCarOne(set, bit)) {
                return OUTSIDE;
            }
        }
        int[] load = new int[2];
        List<List<Integer>> cars = List.of(new ArrayList<>(), new ArrayList<>());
        for (int p = n - 1; p >= 0; p--) {
            int car = inCarOne(set, p) ? 1 : 0;
            cars.get(car).add(p);
            load[car] += pieces.get(p).length;
        }
        if (load[0] > holds[0] || load[1] > holds[1]) {
            return NONE;
        }
        int over = 0;
        for (int p : order()) {
            List<Integer> stack = cars.get(inCarOne(set, p) ? 1 : 0);
            over += stack.size() - 1 - stack.indexOf(p);
            stack.remove(Integer.valueOf(p));
        }
        return over;
    }

    /** The best packing as a set; NONE. */
    private int best() {
        int n = pieces.size();
        int best = NONE;
        int fewest = 0;
        for (int code = 0; code < 1 << n; code++) {
            int set = 0;
            for (int p = 0; p < n; p++) {
                // piece 0 is told by the highest bit of the code: the codes come in the order of the tie
                set |= (code >> n - 1 - p & 1) << p;
            }
            int over = turned(set);
            if (over != NONE && (best == NONE || over < fewest)) {
                best = set;
                fewest = over;
            }
        }
        return best;
    }

    int packing() {
        int best = best();
        return best == NONE ? NONE : turned(best);
    }

    int carOf(int piece) {
        if (!isPiece(piece)) {
            return UNKNOWN;
        }
        int best = best();
        return best == NONE ? NONE : inCarOne(best, piece) ? 1 : 0;
    }

    // ---- reports

    int report(int mill, int wood, int packer, int road, boolean bad) {
        int[] has = {mill, wood, packer, road};
        for (int h : has) {
            if (!within(h, 0, 3)) {
                return OUTSIDE;
            }
        }
        if (reports.size() == 40) {
            return FULL;
        }
        reports.add(new Report(has, bad));
        return reports.size() - 1;
    }

    int sure(int v) {
        if (!within(v, 0, 100)) {
            return OUTSIDE;
        }
        int was = sure;
        sure = v;
        return was;
    }

    private static boolean has(Report r, int cause) {
        return r.has[cause / 4] == cause % 4;
    }

    int explains(int cause, boolean bad) {
        if (!within(cause, 0, 15)) {
            return OUTSIDE;
        }
        int many = 0;
        for (Report r : reports) {
            many += has(r, cause) && (r.bad || !bad) ? 1 : 0;
        }
        return many;
    }

    int likely(int cause) {
        if (!within(cause, 0, 15)) {
            return OUTSIDE;
        }
        int bad = explains(cause, true);
        int all = explains(cause, false);
        return bad >= 1 && (double) bad / all * 100 + 1e-9 >= sure ? 1 : 0;
    }

    /** The sets of so many causes in their order; the first that is good, or null. */
    private List<Integer> firstSet(List<Integer> head, int from, int many) {
        if (many == 0) {
            return explainsAll(head) ? head : null;
        }
        for (int c = from; c < 16; c++) {
            if (likely(c) == 1) {
                List<Integer> more = new ArrayList<>(head);
                more.add(c);
                List<Integer> found = firstSet(more, c + 1, many - 1);
                if (found != null) {
                    return found;
                }
            }
        }
        return null;
    }

    private boolean explainsAll(List<Integer> set) {
        for (Report r : reports) {
            boolean explained = !r.bad;
            for (int c : set) {
                explained |= has(r, c);
            }
            if (!explained) {
                return false;
            }
        }
        return true;
    }

    private List<Integer> fewestCauses() {
        List<Integer> likely = new ArrayList<>();
        for (int c = 0; c < 16; c++) {
            if (likely(c) == 1) {
                likely.add(c);
            }
        }
        for (int many = 0; explainsAll(likely) && many <= likely.size(); many++) {
            List<Integer> found = firstSet(List.of(), 0, many);
            if (found != null) {
                return found;
            }
        }
        return null;
    }

    int causes() {
        List<Integer> found = fewestCauses();
        return found == null ? NONE : found.size();
    }

    int cause(int i) {
        List<Integer> found = fewestCauses();
        return found != null && within(i, 0, found.size() - 1) ? found.get(i) : NONE;
    }

    // ---- loans

    int pass(int n) {
        return ledger.pass(n);
    }

    int loan(int sum, int rate, int part) {
        return ledger.loan(sum, rate, part);
    }

    int pay(int loan, int v) {
        return ledger.pay(loan, v);
    }

    int work(int loan, boolean has) {
        return ledger.work(loan, has);
    }

    long as(int loan, int month, int what) {
        return ledger.as(loan, month, what);
    }

    int arrears(int loan) {
        return ledger.arrears(loan);
    }

    int term(int month) {
        return ledger.term(month);
    }

    int feed(int term, long bytes) {
        return ledger.feed(term, bytes);
    }

    int fault(int term) {
        return ledger.fault(term);
    }

    int force(int month) {
        return ledger.force(month);
    }

    int may(int loan) {
        return ledger.may(loan);
    }

    long takeBack(int loan) {
        return ledger.takeBack(loan);
    }

    int soon(int loan) {
        return ledger.soon(loan);
    }

    int count(int what) {
        switch (what) {
            case 0:
                return pieces.size();
            case 1:
                return meetings.size();
            case 2:
                return reports.size();
            case 7:
                return width;
            default:
                return ledger.count(what);
        }
    }

    /** What was done to a loan, in its order; what it comes to is reckoned from its first day each time. */
    private static final class Ledger {
        private static final BigInteger THOUSAND = BigInteger.valueOf(1000);

        private record Deed(int loan, int month, int paid) {
        }

        private record Loan(int month, int sum, int rate, int part) {
        }

        private record Stand(BigInteger owed, BigInteger due, int how) {
        }

        private int month = 0;
        private final List<Loan> loans = new ArrayList<>();
        /** Payments; one of 0 tells that the house was taken back. */
        private final List<Deed> deeds = new ArrayList<>();
        private final boolean[] works = {true, true, true, true, true, true, true, true};
        private final List<Integer> froms = new ArrayList<>();
        private final List<String> texts = new ArrayList<>();

        private boolean isLoan(int l) {
            return within(l, 0, loans.size() - 1);
        }

        private Stand standing(int number, int end) {
            Loan loan = loans.get(number);
            if (end < loan.month) {
                return new Stand(BigInteger.ZERO, BigInteger.ZERO, 0);
            }
            Stand now = new Stand(BigInteger.valueOf(loan.sum), BigInteger.ZERO, 1);
            for (int m = loan.month; m <= end; m++) {
                if (m > loan.month && now.how == 1) {
                    now = grown(now, loan);
                }
                for (Deed d : deeds) {
                    if (d.loan == number && d.month == m) {
                        now = done(now, d);
                    }
                }
            }
            return now;
        }

        private static Stand grown(Stand s, Loan loan) {
            BigInteger interest = s.owed.multiply(BigInteger.valueOf(loan.rate)).divide(THOUSAND);
            BigInteger owed = s.owed.add(interest);
            return new Stand(owed, s.due.add(BigInteger.valueOf(loan.part)).min(owed), s.how);
        }

        private static Stand done(Stand s, Deed d) {
            if (d.paid == 0) {
                return new Stand(s.owed, s.due, 3);
            }
            BigInteger v = BigInteger.valueOf(d.paid);
            BigInteger owed = s.owed.subtract(v).max(BigInteger.ZERO);
            return new Stand(owed, s.due.subtract(v).max(BigInteger.ZERO), owed.signum() == 0 ? 2 : 1);
        }

        int pass(int n) {
            if (!within(n, 1, 60)) {
                return OUTSIDE;
            }
            if (month + n > 599) {
                return FULL;
            }
            month += n;
            return month;
        }

        int loan(int sum, int rate, int part) {
            if (!within(sum, 1, 100000) || !within(rate, 0, 50) || !within(part, 1, 10000)) {
                return OUTSIDE;
            }
            if (loans.size() == 8) {
                return FULL;
            }
            loans.add(new Loan(month, sum, rate, part));
            return loans.size() - 1;
        }

        int pay(int loan, int v) {
            if (!isLoan(loan)) {
                return UNKNOWN;
            }
            if (!within(v, 1, 100000)) {
                return OUTSIDE;
            }
            Stand s = standing(loan, month);
            if (s.how != 1) {
                return STATE;
            }
            deeds.add(new Deed(loan, month, v));
            return s.owed.min(BigInteger.valueOf(v)).intValueExact();
        }

        int work(int loan, boolean has) {
            if (!isLoan(loan)) {
                return UNKNOWN;
            }
            boolean had = works[loan];
            works[loan] = has;
            return had ? 1 : 0;
        }

        long as(int loan, int when, int what) {
            if (!isLoan(loan)) {
                return UNKNOWN;
            }
            if (!within(when, 0, month) || !within(what, 0, 2)) {
                return OUTSIDE;
            }
            Stand s = standing(loan, when);
            return what == 0 ? s.owed.longValueExact() : what == 1 ? s.due.longValueExact() : s.how;
        }

        int arrears(int loan) {
            return isLoan(loan) ? arrears(standing(loan, month), loans.get(loan)).intValueExact() : UNKNOWN;
        }

        private static BigInteger arrears(Stand s, Loan loan) {
            return s.due.divide(BigInteger.valueOf(loan.part));
        }

        int term(int from) {
            if (!within(from, 0, 599)) {
                return OUTSIDE;
            }
            if (texts.size() == 4) {
                return FULL;
            }
            froms.add(from);
            texts.add("");
            return texts.size() - 1;
        }

        int feed(int term, long bytes) {
            if (!within(term, 0, texts.size() - 1)) {
                return UNKNOWN;
            }
            StringBuilder text = new StringBuilder(texts.get(term));
            long more = bytes;
            for (int i = 0; i < 8 && (more & 0xff) != 0; i++) {
                text.append((char) (more & 0xff));
                more >>>= 8;
            }
            if (text.length() > 60) {
                return FULL;
            }
            texts.set(term, text.toString());
            return text.length();
        }

        int fault(int term) {
            return within(term, 0, texts.size() - 1) ? new Reader(texts.get(term), new long[5]).fault : UNKNOWN;
        }

        int force(int when) {
            if (!within(when, 0, 599)) {
                return OUTSIDE;
            }
            for (int from = when; from >= 0; from--) {
                for (int t = texts.size() - 1; t >= 0; t--) {
                    if (froms.get(t) == from && fault(t) == NONE) {
                        return t;
                    }
                }
            }
            return NONE;
        }

        private boolean says(int loan, Stand s, int when) {
            int term = force(when);
            if (term == NONE || s.how != 1) {
                return false;
            }
            long[] worth = {arrears(s, loans.get(loan)).longValueExact(), s.due.longValueExact(), s.owed.longValueExact(),
                when - loans.get(loan).month, works[loan] ? 1 : 0};
            return new Reader(texts.get(term), worth).says;
        }

        int may(int loan) {
            return isLoan(loan) ? says(loan, standing(loan, month), month) ? 1 : 0 : UNKNOWN;
        }

        long takeBack(int loan) {
            if (!isLoan(loan)) {
                return UNKNOWN;
            }
            if (may(loan) == 0) {
                return STATE;
            }
            deeds.add(new Deed(loan, month, 0));
            return standing(loan, month).owed.longValueExact();
        }

        int soon(int loan) {
            if (!isLoan(loan)) {
                return UNKNOWN;
            }
            if (standing(loan, month).how != 1) {
                return STATE;
            }
            for (int n = 0; n <= 120 && month + n <= 599; n++) {
                if (says(loan, standing(loan, month + n), month + n)) {
                    return n;
                }
            }
            return NONE;
        }

        int count(int what) {
            switch (what) {
                case 3:
                    return loans.size();
                case 4:
                    int open = 0;
                    for (int l = 0; l < loans.size(); l++) {
                        open += standing(l, month).how == 1 ? 1 : 0;
                    }
                    return open;
                case 5:
                    return texts.size();
                case 6:
                    return month;
                default:
                    return OUTSIDE;
            }
        }
    }

    /** A term read by the rules of its grammar, one method a rule; worth has what a, d, o, m, w are. */
    private static final class Reader {
        final int fault;
        final boolean says;
        private final String text;
        private final long[] worth;
        private int at = 0;
        private boolean wrong = false;

        Reader(String text, long[] worth) {
            this.text = text;
            this.worth = worth;
            boolean read = any();
            if (!wrong && sign() >= 0) {
                wrong = true;
            }
            fault = wrong ? at : NONE;
            says = !wrong && read;
        }

        /** The next sign behind blanks; -1 at the end. */
        private int sign() {
            while (at < text.length() && text.charAt(at) == ' ') {
                at++;
            }
            return at < text.length() ? text.charAt(at) : -1;
        }

        private boolean takes(String signs) {
            if (wrong || sign() < 0 || signs.indexOf(sign()) < 0) {
                return false;
            }
            at++;
            return true;
        }

        private int must(String signs) {
            if (!takes(signs)) {
                wrong = true;
                return 0;
            }
            return text.charAt(at - 1);
        }

        private static boolean isDigit(char sign) {
            return sign >= '0' && sign <= '9';
        }

        private boolean any() {
            boolean all = all();
            return takes("|") ? any() | all : all;
        }

        private boolean all() {
            boolean one = one();
            return takes("&") ? all() & one : one;
        }

        private boolean one() {
            if (takes("!")) {
                return !one();
            }
            if (takes("(")) {
                boolean inside = any();
                must(")");
                return inside;
            }
            long value = worth[Math.max(0, "adomw".indexOf(must("adomw")))];
            int compared = must("<=>");
            long number = must("0123456789") - '0';
            for (int i = 1; i < 5 && !wrong && at < text.length() && isDigit(text.charAt(at)); i++) {
                number = number * 10 + must("0123456789") - '0';
            }
            return compared == '<' ? value < number : compared == '=' ? value == number : value > number;
        }
    }
}
