import java.util.ArrayList;
import java.util.List;
import java.util.TreeSet;

/**
 * Each number that a call takes, at its limits, just inside, just outside, and the least and greatest int, with every such
 * value of the call's other numbers: the refusal that is due (UNKNOWN ahead of OUTSIDE, as the calls name them, and both
 * ahead of STATE and FULL), and that nothing has changed. On an object that is empty, on one with something of
 * everything, and on a full one.
 */
public final class ArgumentsTest {
    private static final int MOST = Integer.MAX_VALUE, LEAST = Integer.MIN_VALUE;
    /** So many refused calls stand between an object and a look at it. */
    private static final int AT_ONCE = 100;

    private interface Numbers {
        long on(BoxcarHouses x, int[] a);
    }

    /** A number from least to most; others are refused so. A boolean is one from 0 to 1 that has no others. */
    private record Span(int least, int most, int refusal) {
        int[] values() {
            TreeSet<Integer> all = new TreeSet<>();
            for (long v : new long[] {LEAST, least - 1L, least, least + 1L, most - 1L, most, most + 1L, MOST}) {
                boolean isInt = v == (int) v;
                boolean isTaken = v >= least && v <= most;
                if (isInt && (isTaken || refusal != 0)) {
                    all.add((int) v);
                }
            }
            return all.stream().mapToInt(Integer::intValue).toArray();
        }

        boolean takes(int v) {
            return v >= least && v <= most;
        }
    }

    private static final Span EITHER = new Span(0, 1, 0);

    private static World world;
    private static String name;
    private static boolean isFull;
    private static List<World.Call> refused;

    public static void main(String[] args) {
        all("empty", World.empty(), false);
        all("some", World.some(), false);
        all("full", World.full(), true);
        Due.end();
    }

    private static void all(String called, World w, boolean full) {
        world = w;
        name = called;
        isFull = full;
        BoxcarHouses x = w.make();
        plans(below(x.count(0)));
        boards(below(x.count(0)), below(x.boards()));
        cars(x.count(0));
        reports(new Span(0, x.causes() - 1, Due.NONE));
        loans(below(x.count(3)), x.count(6));
        terms(below(x.count(5)));
    }

    /** The numbers of so many things. */
    private static Span below(int many) {
        return new Span(0, many - 1, Due.UNKNOWN);
    }

    private static Span from(int least, int most) {
        return new Span(least, most, Due.OUTSIDE);
    }

    private static void plans(Span piece) {
        row("Promise 2: width", 0, (x, a) -> x.width(a[0]), from(1, 400));
        row("Promise 3: piece", Due.FULL, (x, a) -> x.piece(a[0], a[1], a[2], a[3] == 1), from(0, 400), from(1, 200), from(0, 9), EITHER);
        row("Promise 4: about", 0, (x, a) -> x.about(a[0], a[1]), piece, from(0, 3));
        row("Promise 5: meet", Due.FULL, (x, a) -> x.meet(a[0], a[1], a[2], a[3]), piece, from(0, 1), piece, from(0, 1));
        row("Promise 8: stretch", Due.STATE, (x, a) -> x.stretch(a[0], a[1]), from(0, 400), from(1, 100));
        row("Promise 9: why", 0, (x, a) -> x.why(a[0], a[1]), from(0, 400), from(1, 100));
        row("Promise 10: lean", 0, (x, a) -> x.lean(a[0], a[1], a[2] == 1), piece, piece, EITHER);
        row("Promise 11: order", 0, (x, a) -> x.order(a[0]), new Span(0, piece.most, Due.NONE));
        row("Promise 12: below", 0, (x, a) -> x.below(a[0]), piece);
    }

    private static void boards(Span piece, Span board) {
        row("Promise 13: sort", 0, (x, a) -> x.sort(a[0], a[1], a[2]), below(4), from(0, 400), from(0, 9999));
        row("Promise 14: saw", 0, (x, a) -> x.saw(a[0]), from(0, 9));
        row("Promise 17: board", 0, (x, a) -> x.board(a[0]), piece);
        row("Promise 18: ofBoard", 0, (x, a) -> x.ofBoard(a[0], a[1]), board, from(0, 1));
        row("Promise 19: other", 0, (x, a) -> x.other(a[0]), from(1, 400));
    }

    private static void cars(int pieces) {
        row("Promise 20: car", 0, (x, a) -> x.car(a[0], a[1]), below(2), from(1, 3000));
        row("Promise 22: carOf", 0, (x, a) -> x.carOf(a[0]), below(pieces));
        row("Promise 23: turned", 0, (x, a) -> x.turned(a[0]), from(0, (1 << pieces) - 1));
    }

    private static void reports(Span fewest) {
        row("Promise 24: report", Due.FULL, (x, a) -> x.report(a[0], a[1], a[2], a[3], a[4] == 1), from(0, 3), from(0, 3), from(0, 3),
            from(0, 3), EITHER);
        row("Promise 25: sure", 0, (x, a) -> x.sure(a[0]), from(0, 100));
        row("Promise 26: explains", 0, (x, a) -> x.explains(a[0], a[1] == 1), from(0, 15), EITHER);
        row("Promise 27: likely", 0, (x, a) -> x.likely(a[0]), from(0, 15));
        row("Promise 29: cause", 0, (x, a) -> x.cause(a[0]), fewest);
    }

    private static void loans(Span loan, int month) {
        row("Promise 30: pass", Due.FULL, (x, a) -> x.pass(a[0]), from(1, 60));
        row("Promise 31: loan", Due.FULL, (x, a) -> x.loan(a[0], a[1], a[2]), from(1, 100000), from(0, 50), from(1, 10000));
        row("Promise 32: pay", 0, (x, a) -> x.pay(a[0], a[1]), loan, from(1, 100000));
        row("Promise 33: work", 0, (x, a) -> x.work(a[0], a[1] == 1), loan, EITHER);
        row("Promise 34: as", 0, (x, a) -> x.as(a[0], a[1], a[2]), loan, from(0, month), from(0, 2));
        row("Promise 35: arrears", 0, (x, a) -> x.arrears(a[0]), loan);
        row("Promise 40: may", 0, (x, a) -> x.may(a[0]), loan);
        row("Promise 41: takeBack", 0, (x, a) -> x.takeBack(a[0]), loan);
        row("Promise 42: soon", 0, (x, a) -> x.soon(a[0]), loan);
        row("Promise 43: count", 0, (x, a) -> x.count(a[0]), from(0, 7));
    }

    private static void terms(Span term) {
        row("Promise 36: term", Due.FULL, (x, a) -> x.term(a[0]), from(0, 599));
        row("Promise 38: fault", 0, (x, a) -> x.fault(a[0]), term);
        row("Promise 39: force", 0, (x, a) -> x.force(a[0]), from(0, 599));
        for (long bytes : new long[] {' ', 0L, -1L, Long.MIN_VALUE, Long.MAX_VALUE}) {
            boolean isNone = bytes == 0L || bytes == Long.MIN_VALUE;
            row("Promise 37: feed " + bytes, isNone ? 0 : Due.FULL, (x, a) -> x.feed(a[0], bytes), term);
        }
    }

    /** Where the numbers are as told, a full object refuses the call so (0: it is not refused for being full). */
    private static void row(String call, int whenFull, Numbers numbers, Span... spans) {
        refused = new ArrayList<>();
        combine(call, whenFull, numbers, spans, new int[spans.length], 0);
        lookBehind(call);
    }

    private static void combine(String call, int whenFull, Numbers numbers, Span[] spans, int[] a, int at) {
        if (at == spans.length) {
            ask(call, whenFull, numbers, spans, a.clone());
            return;
        }
        for (int v : spans[at].values()) {
            a[at] = v;
            combine(call, whenFull, numbers, spans, a, at + 1);
        }
    }

    private static void ask(String call, int whenFull, Numbers numbers, Span[] spans, int[] a) {
        String told = call + java.util.Arrays.toString(a) + " (" + name + ")";
        int due = refusalOf(spans, a);
        long answer = numbers.on(world.make(), a);
        if (due != 0) {
            Due.is(told, answer, due);
        } else if (isFull && whenFull != 0) {
            boolean isOne = call.endsWith("meet") && a[0] == a[2];
            Due.is(told, answer, isOne ? Due.STATE : whenFull);
        } else {
            Due.truth(told + " is as told, but answered " + answer, answer != Due.UNKNOWN && answer != Due.OUTSIDE && answer != Due.FULL);
        }
        if (World.isRefusal(answer) || answer == Due.NONE) {
            refused.add(x -> numbers.on(x, a));
        }
    }

    private static int refusalOf(Span[] spans, int[] a) {
        for (int refusal : new int[] {Due.UNKNOWN, Due.OUTSIDE, Due.NONE}) {
            for (int i = 0; i < spans.length; i++) {
                if (spans[i].refusal == refusal && !spans[i].takes(a[i])) {
                    return refusal;
                }
            }
        }
        return 0;
    }

    private static void lookBehind(String call) {
        for (int at = 0; at < refused.size(); at += AT_ONCE) {
            world.stays(call + " refused (" + name + ")", refused.subList(at, Math.min(refused.size(), at + AT_ONCE)));
        }
    }
}
