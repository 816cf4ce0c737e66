import java.util.ArrayList;
import java.util.Arrays;
import java.util.List;

/**
 * An object told as the calls that make it. For each look at it a like one is made, so that no object gets more than
 * its 512 calls and a look may change what it looks at.
 */
final class World {
    interface Call {
        long on(BoxcarHouses x);
    }

    private static final int MOST_CALLS = 512;

    private final List<Call> calls = new ArrayList<>();
    private long[] seen;

    World then(Call call) {
        calls.add(call);
        seen = null;
        return this;
    }

    /** A term of that number with a whole text. */
    World term(int number, int month, String text) {
        then(x -> x.term(month));
        for (int at = 0; at < text.length(); at += 8) {
            long bytes = Due.packed(text, at);
            then(x -> x.feed(number, bytes));
        }
        return this;
    }

    World pass(int months) {
        for (int gone = 0; gone < months; gone += 60) {
            int n = Math.min(60, months - gone);
            then(x -> x.pass(n));
        }
        return this;
    }

    int size() {
        return calls.size();
    }

    BoxcarHouses make() {
        BoxcarHouses x = new BoxcarHouses();
        for (Call call : calls) {
            if (isRefusal(call.on(x))) {
                Due.truth("a call that makes a world is not refused", false);
            }
        }
        return x;
    }

    static boolean isRefusal(long answer) {
        return answer <= Due.UNKNOWN && answer >= Due.FULL;
    }

    void answers(String what, long due, Call call) {
        Due.is(what, call.on(make()), due);
    }

    /** The call is refused so, and whatever can be seen of the object is as it was. */
    void refuses(String what, long due, Call call) {
        answers(what, due, call);
        stays(what, List.of(call));
    }

    /** Behind these calls, and by them, whatever can be seen of the object is as it was. */
    void stays(String what, List<Call> by) {
        if (seen == null) {
            seen = look(List.of());
        }
        long[] now = look(by);
        int at = Arrays.mismatch(seen, now);
        Due.truth(what + ": nothing has changed (look " + at + ")", at < 0);
    }

    private long[] look(List<Call> by) {
        List<Long> answers = new ArrayList<>();
        for (List<Call> part : LOOKS) {
            Due.truth("at most 512 calls", calls.size() + by.size() + part.size() <= MOST_CALLS);
            BoxcarHouses x = make();
            for (Call call : by) {
                call.on(x);
            }
            for (Call call : part) {
                answers.add(call.on(x));
            }
        }
        return answers.stream().mapToLong(Long::longValue).toArray();
    }

    private static final List<List<Call>> LOOKS = looks();

    private static List<List<Call>> looks() {
        List<List<Call>> all = new ArrayList<>();
        all.add(plan());
        all.add(stretches());
        all.add(leans());
        all.add(boards());
        for (int s = 0; s < 4; s++) {
            all.add(priceOfSort(s));
        }
        all.add(cars());
        all.add(reports());
        all.add(loans(0));
        all.add(loans(4));
        all.add(loansGoOn());
        all.add(terms());
        return all;
    }

    private static List<Call> plan() {
        List<Call> part = new ArrayList<>();
        for (int what = 0; what < 8; what++) {
            int w = what;
            part.add(x -> x.count(w));
        }
        part.add(BoxcarHouses::apart);
        for (int piece = 0; piece < 12; piece++) {
            int p = piece;
            for (int what = 0; what < 4; what++) {
                int w = what;
                part.add(x -> x.about(p, w));
            }
            part.add(x -> x.order(p));
            part.add(x -> x.below(p));
        }
        part.add(BoxcarHouses::mirror);
        part.add(BoxcarHouses::apart);
        part.add(x -> x.width(400));
        part.add(BoxcarHouses::mirror);
        part.add(BoxcarHouses::apart);
        for (int piece = 0; piece < 12; piece++) {
            int p = piece;
            part.add(x -> x.about(p, 0));
        }
        return part;
    }

    private static List<Call> stretches() {
        List<Call> part = new ArrayList<>();
        for (int at = 0; at <= 400; at += 4) {
            int line = at;
            part.add(x -> x.why(line, 1));
        }
        for (int at = 0; at <= 400; at += 20) {
            int line = at;
            part.add(x -> x.why(line, 100));
        }
        return part;
    }

    private static List<Call> leans() {
        List<Call> part = new ArrayList<>();
        for (int i = 0; i < 144; i++) {
            int a = i / 12;
            int b = i % 12;
            part.add(x -> x.lean(a, b, false));
        }
        return part;
    }

    private static List<Call> boards() {
        List<Call> part = new ArrayList<>();
        part.add(BoxcarHouses::price);
        part.add(BoxcarHouses::boards);
        for (int i = 0; i < 12; i++) {
            int at = i;
            part.add(x -> x.board(at));
            part.add(x -> x.ofBoard(at, 0));
            part.add(x -> x.ofBoard(at, 1));
        }
        for (int i = 1; i <= 400; i += 7) {
            int length = i;
            part.add(x -> x.other(length));
        }
        part.add(x -> x.saw(0));
        for (int i = 0; i < 4; i++) {
            int s = i;
            part.add(x -> x.sort(s, 0, 0));
        }
        return part;
    }

    /** What a sort costs can be seen only when there is no other. */
    private static List<Call> priceOfSort(int sort) {
        List<Call> part = new ArrayList<>();
        for (int i = 0; i < 4; i++) {
            int s = i;
            part.add(x -> s == sort ? 0 : x.sort(s, 0, 0));
        }
        part.add(BoxcarHouses::price);
        part.add(BoxcarHouses::boards);
        return part;
    }

    private static List<Call> cars() {
        List<Call> part = new ArrayList<>();
        part.add(BoxcarHouses::packing);
        for (int i = 0; i < 12; i++) {
            int p = i;
            part.add(x -> x.carOf(p));
        }
        for (int i = 0; i < 4096; i += 39) {
            int set = i;
            part.add(x -> x.turned(set));
        }
        part.add(x -> x.car(0, 1));
        part.add(x -> x.car(1, 1));
        return part;
    }

    private static List<Call> reports() {
        List<Call> part = new ArrayList<>();
        part.add(BoxcarHouses::causes);
        for (int i = 0; i < 16; i++) {
            int c = i;
            part.add(x -> x.explains(c, false));
            part.add(x -> x.explains(c, true));
            part.add(x -> x.likely(c));
            part.add(x -> x.cause(c));
        }
        part.add(x -> x.sure(0));
        return part;
    }

    private static List<Call> loans(int first) {
        List<Call> part = new ArrayList<>();
        for (int i = first; i < first + 4; i++) {
            int l = i;
            for (int when : new int[] {0, 1, 2, 4, 5, 9, 10, 11, 60, 300, 598, 599}) {
                for (int what = 0; what < 3; what++) {
                    int w = what;
                    part.add(x -> x.as(l, when, w));
                }
            }
            part.add(x -> x.arrears(l));
            part.add(x -> x.may(l));
            part.add(x -> x.soon(l));
        }
        return part;
    }

    /** What a month more makes of the loans, with and without work. */
    private static List<Call> loansGoOn() {
        List<Call> part = new ArrayList<>();
        part.add(x -> x.pass(1));
        for (int i = 0; i < 8; i++) {
            int l = i;
            part.add(x -> x.arrears(l));
            part.add(x -> x.work(l, false));
            part.add(x -> x.may(l));
            part.add(x -> x.pay(l, 1));
            part.add(x -> x.takeBack(l));
        }
        part.add(x -> x.count(4));
        return part;
    }

    private static List<Call> terms() {
        List<Call> part = new ArrayList<>();
        for (int i = 0; i < 4; i++) {
            int t = i;
            part.add(x -> x.fault(t));
            part.add(x -> x.feed(t, 0L));
        }
        for (int i = 0; i < 600; i += 8) {
            int month = i;
            part.add(x -> x.force(month));
        }
        for (int i = 0; i < 4; i++) {
            int t = i;
            part.add(x -> x.force(599 - t));
            part.add(x -> x.feed(t, ' '));
            part.add(x -> x.fault(t));
        }
        return part;
    }

    static World empty() {
        return new World();
    }

    /** Pieces of these lengths, all at place 0. */
    static World pieces(int... lengths) {
        World w = new World();
        for (int length : lengths) {
            w.then(x -> x.piece(0, length, 0, false));
        }
        return w;
    }

    /** So many pieces of one length. */
    static World alike(int many, int length) {
        int[] lengths = new int[many];
        Arrays.fill(lengths, length);
        return pieces(lengths);
    }

    /** Something of everything, with room for more; month 10. */
    static World some() {
        World w = new World();
        w.then(x -> x.width(120)).then(x -> x.piece(0, 30, 0, false)).then(x -> x.piece(30, 40, 1, true));
        w.then(x -> x.piece(70, 20, 2, false)).then(x -> x.meet(0, 1, 1, 0)).then(x -> x.meet(1, 0, 2, 0));
        w.then(x -> x.lean(0, 2, true)).then(x -> x.sort(1, 100, 8)).then(x -> x.sort(3, 45, 5)).then(x -> x.saw(2));
        w.then(x -> x.car(0, 80)).then(x -> x.car(1, 90));
        w.then(x -> x.report(0, 1, 2, 3, true)).then(x -> x.report(1, 1, 2, 0, false)).then(x -> x.report(2, 3, 3, 0, true));
        w.then(x -> x.sure(40));
        w.term(0, 2, "a>2|w=0").term(1, 599, "");
        w.then(x -> x.loan(1000, 10, 100)).then(x -> x.pass(4)).then(x -> x.loan(500, 0, 70)).then(x -> x.loan(90, 50, 30));
        w.then(x -> x.loan(2000, 3, 9)).then(x -> x.pay(1, 500)).then(x -> x.pass(5)).then(x -> x.takeBack(2));
        return w.then(x -> x.pay(0, 50)).then(x -> x.work(3, false)).then(x -> x.pass(1));
    }

    /** As much of everything as there may be; month 599. */
    static World full() {
        World w = new World();
        for (int i = 0; i < 12; i++) {
            int p = i;
            w.then(x -> x.piece(p * 20, p == 5 ? 200 : 20 + p, p % 10, p % 3 == 0));
        }
        for (int i = 0; i < 20; i++) {
            int m = i;
            w.then(x -> x.meet(m % 11, m % 2, m % 11 + 1, m / 2 % 2));
        }
        for (int i = 0; i < 6; i++) {
            int p = i;
            w.then(x -> x.lean(p, p + 1, true));
        }
        for (int i = 0; i < 4; i++) {
            int s = i;
            w.then(x -> x.sort(s, 100 * (s + 1), 9 + 20 * s));
        }
        w.then(x -> x.width(400)).then(x -> x.saw(9)).then(x -> x.car(0, 300)).then(x -> x.car(1, 400)).then(x -> x.sure(60));
        for (int i = 0; i < 40; i++) {
            int r = i;
            w.then(x -> x.report(r & 3, r / 3 & 3, r / 5 & 3, r / 7 & 3, r % 3 != 0));
        }
        fullTerms(w);
        return fullLoans(w);
    }

    private static void fullTerms(World w) {
        String[] texts = {"a>3&w=0", "o>90000|d>500", "a>1&(m>3|w=0)", "!d<4000"};
        for (int i = 0; i < 4; i++) {
            w.term(i, i * 199, texts[i] + " ".repeat(60 - texts[i].length()));
        }
    }

    private static World fullLoans(World w) {
        for (int i = 0; i < 8; i++) {
            int l = i;
            w.then(x -> x.loan(1000 * (l + 1), 2 * l, 100 + l));
            if (i < 4) {
                w.then(x -> x.pass(5));
            }
        }
        w.then(x -> x.pay(2, 100000)).then(x -> x.work(0, false)).then(x -> x.takeBack(0)).then(x -> x.work(4, false));
        return w.pass(540).then(x -> x.pay(5, 77)).pass(39);
    }
}
