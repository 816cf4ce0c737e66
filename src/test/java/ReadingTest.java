import java.util.Arrays;
import java.util.Map;
import java.util.TreeMap;
import java.util.TreeSet;

/**
 * Promises 1 to 43 all at once: runs of up to 512 calls of all kinds on one object, each answer compared with a second
 * reading of the document (Reading) that keeps nothing it could reckon. Each refusal that a call names, NONE where it
 * names it, and an ordinary answer must have come up, or the runs would not show much.
 */
public final class ReadingTest {
    /** Each call: its promise, its name, the kinds of its numbers; behind the bar what it may answer beside an ordinary answer. */
    private static final String[] CALLS = {
        "Promise 2: width span | OUTSIDE", "Promise 3: piece place length level either | OUTSIDE FULL",
        "Promise 4: about piece what | UNKNOWN OUTSIDE", "Promise 5: meet piece end piece end | UNKNOWN OUTSIDE STATE FULL",
        "Promise 6: apart | NONE", "Promise 7: mirror | STATE", "Promise 8: stretch line by | OUTSIDE STATE",
        "Promise 9: why line by | OUTSIDE", "Promise 10: lean piece piece either | UNKNOWN STATE",
        "Promise 11: order piece | NONE", "Promise 12: below piece | UNKNOWN",
        "Promise 13: sort sort board price | UNKNOWN OUTSIDE", "Promise 14: saw loss | OUTSIDE", "Promise 15: price | NONE",
        "Promise 16: boards | NONE", "Promise 17: board piece | UNKNOWN NONE", "Promise 18: ofBoard piece end | UNKNOWN OUTSIDE",
        "Promise 19: other rest | OUTSIDE NONE",
        "Promise 20: car end load | UNKNOWN OUTSIDE", "Promise 21: packing | NONE", "Promise 22: carOf piece | UNKNOWN NONE",
        "Promise 23: turned set | OUTSIDE NONE",
        "Promise 24: report four four four four either | OUTSIDE FULL", "Promise 25: sure share | OUTSIDE",
        "Promise 26: explains cause either | OUTSIDE", "Promise 27: likely cause | OUTSIDE", "Promise 28: causes | NONE",
        "Promise 29: cause four | NONE",
        "Promise 30: pass months | OUTSIDE FULL", "Promise 31: loan sum rate part | OUTSIDE FULL",
        "Promise 32: pay loan sum | UNKNOWN OUTSIDE STATE", "Promise 33: work loan either | UNKNOWN",
        "Promise 34: as loan month what | UNKNOWN OUTSIDE", "Promise 35: arrears loan | UNKNOWN",
        "Promise 36: term month | OUTSIDE FULL", "Promise 37: feed term text | UNKNOWN FULL",
        "Promise 38: fault term | UNKNOWN NONE", "Promise 39: force month | OUTSIDE NONE", "Promise 40: may loan | UNKNOWN",
        "Promise 41: takeBack loan | UNKNOWN STATE", "Promise 42: soon loan | UNKNOWN STATE NONE", "Promise 43: count what | OUTSIDE"};
    /** Where each part of the face begins among the calls. */
    private static final int[] PARTS = {0, 11, 18, 22, 28, 42};
    private static final String[] TEXTS = {"a>1", "a>0&", "w=0", "|", "&", "!", "(", ")", " ", "m>9", "o>900|", "d<50", "(w=1&", "!(a<2)",
        "o<99999", "m = 30", "a>3 &m>", "12", "x", "w=1", "        ", "|w=1 &o>"};

    private static final String[] TERMS = {"a>1", "a>2|w=0", "m>9&a>0", "!w=1", "o>900", "d>30|m=5", "!(o<50)", "a<1&d>0", "w=0 ", "m > 90"};

    private static final Map<String, TreeSet<String>> SEEN = new TreeMap<>();

    private static BoxcarHouses object;
    private static Reading reading;
    /** So many pieces may there be: all cuts of them are tried at each look. */
    private static int mostPieces;
    /** Whether months go by fast, up to the last. */
    private static boolean hurries;

    public static void main(String[] args) throws ReflectiveOperationException {
        atFirst();
        for (int run = 0; run < 360; run++) {
            run(run % 6, 3 + run % 4);
        }
        for (int run = 0; run < 12; run++) {
            run(run % 2 * 2, 12);
        }
        everythingSeen();
        Due.end();
    }

    private static void atFirst() {
        BoxcarHouses x = new BoxcarHouses();
        Reading r = new Reading();
        for (int what = 0; what < 8; what++) {
            Due.is("Promise 1: count(" + what + ")", x.count(what), r.count(what));
        }
        Due.is("Promise 1: the width", x.width(1), 100);
    }

    /** Most calls are of one part of the face; of the part that is behind the last, any calls. */
    private static void run(int part, int pieces) throws ReflectiveOperationException {
        object = new BoxcarHouses();
        reading = new Reading();
        mostPieces = pieces;
        hurries = Due.chance(30);
        begin(Due.any(0, pieces));
        for (int calls = 100; calls < 512; calls++) {
            boolean ofPart = part < 5 && Due.chance(85);
            call(CALLS[ofPart ? Due.any(PARTS[part], PARTS[part + 1] - 1) : Due.any(0, CALLS.length - 1)]);
        }
    }

    /** Something to begin with, so that few calls are made in vain: fewer than 100 calls. */
    private static void begin(int pieces) throws ReflectiveOperationException {
        for (int p = 0; p < pieces; p++) {
            int ahead = p == 0 ? 0 : reading.about(p - 1, 0) + reading.about(p - 1, 1);
            int place = Due.chance(70) && ahead <= 400 ? ahead : Due.any(0, 9) * 10;
            ask("Promise 3:", "piece", place, Due.any(1, 6) * 10, Due.any(0, 9), Due.chance(30));
            if (p > 0 && place == ahead) {
                ask("Promise 5:", "meet", p, 0, p - 1, 1);
            }
            ask("Promise 10:", "lean", Due.any(0, p), Due.any(0, p), true);
            ask("Promise 10:", "lean", Due.any(0, p), p, true);
        }
        for (int s = 0; s < 3; s++) {
            ask("Promise 13:", "sort", s, Due.any(6, 25) * 10, Due.any(1, 30));
        }
        for (int t = 0; t < 3; t++) {
            ask("Promise 36:", "term", t * t * 20);
            ask("Promise 37:", "feed", t, Due.packed(TERMS[Due.any(0, TERMS.length - 1)], 0));
        }
    }

    private static void call(String row) throws ReflectiveOperationException {
        String[] words = row.substring(0, row.indexOf(" |")).split(" ");
        String name = words[2];
        boolean isTooMuch = name.equals("piece") && reading.count(0) >= mostPieces && mostPieces < 12;
        boolean isTooSlow = reading.count(0) > 7 && "price boards board ofBoard other".contains(name);
        if (isTooMuch || isTooSlow || name.equals("pass") && !hurries && Due.chance(70)) {
            return;
        }
        Object[] with = new Object[words.length - 3];
        for (int i = 0; i < with.length; i++) {
            with[i] = value(words[3 + i]);
        }
        ask(words[0] + " " + words[1], name, with);
    }

    private static void ask(String promise, String name, Object... with) throws ReflectiveOperationException {
        Class<?>[] types = new Class<?>[with.length];
        for (int i = 0; i < with.length; i++) {
            types[i] = with[i] instanceof Boolean ? boolean.class : with[i] instanceof Long ? long.class : int.class;
        }
        long answer = ((Number) BoxcarHouses.class.getMethod(name, types).invoke(object, with)).longValue();
        long due = ((Number) Reading.class.getDeclaredMethod(name, types).invoke(reading, with)).longValue();
        Due.is(promise + " " + name + Arrays.toString(with), answer, due);
        SEEN.computeIfAbsent(name, n -> new TreeSet<>()).add(kindOf(due));
    }

    /** The row of a call, by its name. */
    static String rowOf(String name) {
        for (String row : CALLS) {
            if (row.split(" ")[2].equals(name)) {
                return row;
            }
        }
        throw new IllegalStateException(name);
    }

    private static String kindOf(long answer) {
        switch ((int) answer) {
            case Due.UNKNOWN:
                return "UNKNOWN";
            case Due.OUTSIDE:
                return "OUTSIDE";
            case Due.STATE:
                return "STATE";
            case Due.FULL:
                return "FULL";
            case Due.NONE:
                return "NONE";
            default:
                return "an answer";
        }
    }

    /** Just what the document names for each call has come up, and nothing else. */
    private static void everythingSeen() {
        for (String row : CALLS) {
            String name = row.split(" ")[2];
            TreeSet<String> named = new TreeSet<>(Arrays.asList(row.substring(row.indexOf('|') + 2).split(" ")));
            named.add("an answer");
            Due.truth(row + ": seen " + SEEN.get(name), named.equals(SEEN.get(name)));
        }
    }

    private static Object value(String kind) {
        if (kind.equals("either")) {
            return Due.chance(60);
        }
        if (kind.equals("text")) {
            return Due.packed(TEXTS[Due.any(0, TEXTS.length - 1)], 0);
        }
        return Due.chance(3) ? Due.any(0, 1) * 200002 - 1 : number(kind);
    }

    private static int number(String kind) {
        switch (kind) {
            case "span":
                return Due.any(8, 40) * 10;
            case "place":
                return Due.chance(90) ? Due.any(0, 9) * 10 : Due.any(0, 401);
            case "length":
                return Due.chance(90) ? Due.any(1, 7) * 10 : Due.any(0, 201);
            case "line":
                return Due.chance(90) ? Due.any(0, 30) * 5 : Due.any(0, 401);
            case "by":
                return Due.chance(90) ? Due.any(1, 2) * 5 : Due.any(0, 101);
            case "piece":
                return Due.chance(96) ? Due.any(0, Math.max(0, reading.count(0) - 1)) : reading.count(0);
            case "end":
                return Due.chance(96) ? Due.any(0, 1) : 2;
            default:
                return otherNumber(kind);
        }
    }

    private static int otherNumber(String kind) {
        switch (kind) {
            case "board":
                return Due.chance(15) ? 0 : Due.chance(70) ? Due.any(5, 25) * 10 : Due.any(0, 401);
            case "price":
                return Due.chance(90) ? Due.any(0, 20) : Due.any(0, 10000);
            case "rest":
                return Due.any(1, 60);
            case "load":
                return Due.chance(70) ? Due.any(1, 40) * 10 : Due.any(400, 3001);
            case "set":
                return Due.any(0, (1 << reading.count(0)) - (Due.chance(95) ? 1 : 0));
            case "sum":
                return Due.chance(60) ? Due.any(1, 500) : Due.any(1, 100001);
            case "part":
                return Due.chance(80) ? Due.any(1, 200) : Due.any(1, 10001);
            case "months":
                return !hurries && Due.chance(70) ? Due.any(1, 12) : Due.any(1, 61);
            case "month":
                return Due.chance(70) ? Due.any(0, reading.count(6)) : Due.any(0, 600);
            default:
                return Due.any(0, mostOf(kind) + (Due.chance(5) ? 1 : 0));
        }
    }

    private static int mostOf(String kind) {
        switch (kind) {
            case "level":
            case "loss":
                return 9;
            case "what":
                return 7;
            case "sort":
            case "four":
                return 3;
            case "share":
                return 100;
            case "cause":
                return 15;
            case "rate":
                return 50;
            case "loan":
                return Math.max(0, reading.count(3) - 1);
            case "term":
                return Math.max(0, reading.count(5) - 1);
            default:
                throw new IllegalStateException(kind);
        }
    }
}
