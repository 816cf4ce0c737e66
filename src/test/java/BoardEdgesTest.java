import java.util.Arrays;

/** Promises 13 to 19: each sentence that names a limit, at it, just inside and just outside. */
public final class BoardEdgesTest {
    public static void main(String[] args) {
        sortTaken();
        sortRefused();
        noneOfASort();
        longEnough();
        sawTaken();
        noLongerThanTheBoard();
        longestBoard();
        longerThanAll();
        dearest();
        likePrices();
        likeBoards();
        likeSorts();
        boardNumbers();
        whatIsLeft();
        otherTaken();
        otherAsLong();
        otherOfLike();
        Due.end();
    }

    /** Promise 13: "SORTS OF BOARDS 0 to 3: a LENGTH (0: there is none; 400 at most) and a PRICE (0 to 9999)". */
    private static void sortTaken() {
        for (int i = 0; i < 4; i++) {
            int s = i;
            for (int length : new int[] {0, 1, 399, 400}) {
                World w = World.empty().then(x -> x.sort(s, length, 7));
                w.answers("Promise 13: the LENGTH that it had", length, x -> x.sort(s, 5, 7));
                w.answers("Promise 13: others have their own", 0, x -> x.sort(3 - s, 5, 7));
            }
            for (int price : new int[] {0, 1, 9998, 9999}) {
                World w = World.pieces(1).then(x -> x.sort(s, 1, price));
                w.answers("Promise 15: its PRICE", price, BoxcarHouses::price);
                w.answers("Promise 18: its SORT", s, x -> x.ofBoard(0, 0));
            }
        }
    }

    /** Promise 13: UNKNOWN ahead of OUTSIDE; what is refused changes neither LENGTH nor PRICE. */
    private static void sortRefused() {
        World w = World.pieces(20, 30).then(x -> x.sort(0, 40, 9)).then(x -> x.sort(3, 60, 11));
        for (int s : new int[] {-1, 4}) {
            w.refuses("Promise 13: no such sort", Due.UNKNOWN, x -> x.sort(s, 10, 1));
            w.refuses("Promise 13: no such sort, length outside", Due.UNKNOWN, x -> x.sort(s, 401, 1));
            w.refuses("Promise 13: no such sort, price outside", Due.UNKNOWN, x -> x.sort(s, 10, 10000));
        }
        for (int s : new int[] {0, 3}) {
            w.refuses("Promise 13: length below 0", Due.OUTSIDE, x -> x.sort(s, -1, 1));
            w.refuses("Promise 13: length above 400", Due.OUTSIDE, x -> x.sort(s, 401, 1));
            w.refuses("Promise 13: price below 0", Due.OUTSIDE, x -> x.sort(s, 400, -1));
            w.refuses("Promise 13: price above 9999", Due.OUTSIDE, x -> x.sort(s, 400, 10000));
            w.refuses("Promise 13: none, but its price outside", Due.OUTSIDE, x -> x.sort(s, 0, 10000));
        }
    }

    /** "0: there is none". */
    private static void noneOfASort() {
        World w = World.pieces(1).then(x -> x.sort(2, 0, 0));
        w.answers("Promise 15: there is none", Due.NONE, BoxcarHouses::price);
        w.answers("Promise 15: one of 1 is there", 0, x -> x.sort(2, 1, 0) + x.price());
        World gone = World.pieces(1).then(x -> x.sort(2, 1, 5));
        gone.answers("Promise 15: there is none any more", Due.NONE, x -> x.sort(2, 0, 5) * 0 + x.price());
        World other = World.pieces(1).then(x -> x.sort(0, 0, 0)).then(x -> x.sort(1, 1, 9));
        other.answers("Promise 15: that at no price is none", 9, BoxcarHouses::price);
        other.answers("Promise 18: it is the other", 1, x -> x.ofBoard(0, 0));
    }

    /** A PIECE as long as the board, one less, one more. */
    private static void longEnough() {
        for (int length : new int[] {1, 2, 100, 199, 200}) {
            World w = World.pieces(length);
            w.answers("Promise 15: as long", 3, x -> x.sort(0, length, 3) + x.price());
            w.answers("Promise 18: nothing is left", 0, x -> x.sort(0, length, 3) + x.ofBoard(0, 1));
            w.answers("Promise 15: one longer", 3, x -> x.sort(0, length + 1, 3) + x.price());
            w.answers("Promise 15: one shorter", Due.NONE, x -> x.sort(0, length - 1, 3) + x.price());
            w.answers("Promise 16: one shorter", Due.NONE, x -> x.sort(0, length - 1, 3) + x.boards());
            w.answers("Promise 17: one shorter", Due.NONE, x -> x.sort(0, length - 1, 3) + x.board(0));
            w.answers("Promise 18: one shorter", Due.UNKNOWN, x -> x.sort(0, length - 1, 3) + x.ofBoard(0, 0));
            w.answers("Promise 19: one shorter", Due.NONE, x -> x.sort(0, length - 1, 3) + x.other(1));
        }
    }

    /** Promise 14: "THE SAW loses so much (0 to 9; 1 at first)". */
    private static void sawTaken() {
        for (int v = 0; v <= 9; v++) {
            int loss = v;
            World.empty().answers("Promise 14: what it lost at first", 1, x -> x.saw(loss));
            World.empty().answers("Promise 14: what it lost", loss, x -> x.saw(loss) * 0 + x.saw(3));
        }
        World w = World.pieces(10, 10).then(x -> x.sort(0, 22, 5)).then(x -> x.saw(2));
        for (int v : new int[] {Integer.MIN_VALUE, -1, 10, Integer.MAX_VALUE}) {
            w.refuses("Promise 14: saw(" + v + ")", Due.OUTSIDE, x -> x.saw(v));
        }
    }

    /** "of one board PIECES, and what THE SAW loses between them, are together no longer than it". */
    private static void noLongerThanTheBoard() {
        for (int v = 0; v <= 9; v++) {
            int loss = v;
            for (int i = 1; i <= 12; i++) {
                int many = i;
                int all = 10 * many + loss * (many - 1);
                World w = World.alike(many, 10).then(x -> x.saw(loss));
                w.answers("Promise 16: just so, " + many, 1, x -> x.sort(0, all, 1) + x.boards());
                w.answers("Promise 16: one longer, " + many, 1, x -> x.sort(0, all + 1, 1) + x.boards());
                int due = many == 1 ? Due.NONE : 2;
                w.answers("Promise 16: one shorter, " + many, due, x -> x.sort(0, all - 1, 1) + x.boards());
            }
        }
    }

    /** The longest board and the longest pieces. */
    private static void longestBoard() {
        World w = World.pieces(200, 200).then(x -> x.sort(0, 400, 1));
        w.answers("Promise 16: with what the saw loses they are too long", 2, BoxcarHouses::boards);
        w.answers("Promise 16: without it they are not", 1, x -> x.saw(0) * 0 + x.boards());
        w.answers("Promise 16: nor is a shorter one", 2, x -> x.saw(0) * 0 + x.sort(0, 399, 1) * 0 + x.boards());
        World.pieces(200, 199).then(x -> x.sort(0, 400, 1)).answers("Promise 16: 200, 1 and 199", 1, BoxcarHouses::boards);
        World.pieces(200, 191).then(x -> x.sort(0, 400, 1)).answers("Promise 16: 200, 9 and 191", 1, x -> x.saw(9) * 0 + x.boards());
        World.pieces(200, 192).then(x -> x.sort(0, 400, 1)).answers("Promise 16: 200, 9 and 192", 2, x -> x.saw(9) * 0 + x.boards());
    }

    /** "NONE: some PIECE is longer than all", wherever that piece and the boards stand. */
    private static void longerThanAll() {
        for (int at = 0; at < 12; at++) {
            int[] lengths = new int[12];
            Arrays.fill(lengths, 10);
            lengths[at] = 101;
            for (int i = 0; i < 4; i++) {
                int s = i;
                World w = World.pieces(lengths).then(x -> x.sort(s, 100, 1)).then(x -> x.sort((s + 1) % 4, 10, 0));
                w.answers("Promise 15: longer than all", Due.NONE, BoxcarHouses::price);
                w.answers("Promise 16: longer than all", Due.NONE, BoxcarHouses::boards);
                w.answers("Promise 17: there is none for others either", Due.NONE, x -> x.board(0));
                w.answers("Promise 15: as long as one", 1, x -> x.sort(s, 101, 1) * 0 + x.price());
            }
        }
    }

    /** The most boards at the most price. */
    private static void dearest() {
        for (int many = 1; many <= 12; many++) {
            World w = World.alike(many, 200).then(x -> x.sort(3, 200, 9999));
            w.answers("Promise 15: " + many + " of the dearest", 9999 * many, BoxcarHouses::price);
            w.answers("Promise 16: " + many + " boards", many, BoxcarHouses::boards);
        }
    }

    /** "THE BEST CUT has the least PRICE; of like ones the fewest boards". */
    private static void likePrices() {
        World w = World.pieces(50, 49).then(x -> x.sort(0, 50, 5));
        int[][] rows = {{9, 1, 9}, {10, 1, 10}, {11, 2, 10}};
        for (int[] row : rows) {
            w.answers("Promise 15: a long one at " + row[0], row[2], x -> x.sort(1, 100, row[0]) + x.price());
            w.answers("Promise 16: a long one at " + row[0], row[1], x -> x.sort(1, 100, row[0]) + x.boards());
        }
        World.pieces(50, 49).then(x -> x.sort(0, 50, 0)).then(x -> x.sort(1, 100, 0)).answers("Promise 16: at no price", 1, BoxcarHouses::boards);
        World three = World.pieces(50, 49).then(x -> x.sort(0, 50, 0)).then(x -> x.sort(1, 100, 1));
        three.answers("Promise 16: two at no price", 2, BoxcarHouses::boards);
    }

    /** "of like ones, PIECE by PIECE, the least number of the board". */
    private static void likeBoards() {
        World w = World.pieces(10, 10, 10, 10, 10).then(x -> x.saw(0)).then(x -> x.sort(0, 30, 1));
        int[] due = {0, 0, 0, 1, 1};
        for (int i = 0; i < 5; i++) {
            int p = i;
            w.answers("Promise 17: board(" + p + ")", due[p], x -> x.board(p));
        }
        World tight = World.pieces(20, 11, 10, 19).then(x -> x.saw(0)).then(x -> x.sort(0, 30, 1));
        int[] dueThen = {0, 1, 0, 1};
        for (int i = 0; i < 4; i++) {
            int p = i;
            tight.answers("Promise 17: one too long, board(" + p + ")", dueThen[p], x -> x.board(p));
        }
    }

    /** "each is of the SORT of least PRICE that is long enough, of like ones the least SORT". */
    private static void likeSorts() {
        for (int i = 0; i < 3; i++) {
            int s = i;
            World w = World.pieces(50).then(x -> x.sort(s, 60, 5)).then(x -> x.sort(3, 70, 5));
            w.answers("Promise 18: of like ones the least", s, x -> x.ofBoard(0, 0));
            w.answers("Promise 18: the cheaper", 3, x -> x.sort(3, 70, 4) * 0 + x.ofBoard(0, 0));
            w.answers("Promise 18: the dearer", s, x -> x.sort(3, 70, 6) * 0 + x.ofBoard(0, 0));
            w.answers("Promise 18: one too short", 3, x -> x.sort(s, 49, 0) * 0 + x.ofBoard(0, 0));
            w.answers("Promise 18: as long", s, x -> x.sort(s, 50, 0) * 0 + x.ofBoard(0, 0));
            w.answers("Promise 18: a longer one at like price is no better", 9, x -> x.ofBoard(0, 1));
        }
    }

    /** Promises 17 and 18: the first, the last, one below and one above. */
    private static void boardNumbers() {
        for (int many = 1; many <= 12; many++) {
            int last = many - 1;
            World w = World.alike(many, 10).then(x -> x.sort(0, 15, 1));
            w.answers("Promise 17: the last", last, x -> x.board(last));
            w.refuses("Promise 17: above the last", Due.UNKNOWN, x -> x.board(last + 1));
            w.refuses("Promise 17: below the first", Due.UNKNOWN, x -> x.board(-1));
            w.answers("Promise 18: the last", 4, x -> x.ofBoard(last, 1));
            w.refuses("Promise 18: above the last", Due.UNKNOWN, x -> x.ofBoard(last + 1, 1));
            w.refuses("Promise 18: below the first", Due.UNKNOWN, x -> x.ofBoard(-1, 1));
            w.refuses("Promise 18: above the last, what outside", Due.UNKNOWN, x -> x.ofBoard(last + 1, 2));
            w.refuses("Promise 18: what above", Due.OUTSIDE, x -> x.ofBoard(last, 2));
            w.refuses("Promise 18: what below", Due.OUTSIDE, x -> x.ofBoard(last, -1));
        }
        World fewer = World.pieces(10, 10, 10).then(x -> x.sort(0, 32, 1));
        fewer.refuses("Promise 18: a piece's number is no board's", Due.UNKNOWN, x -> x.ofBoard(1, 0));
    }

    /** "less that loss once more if anything is left at all (0 at least)". */
    private static void whatIsLeft() {
        for (int v = 0; v <= 9; v++) {
            int loss = v;
            World w = World.pieces(50, 40).then(x -> x.saw(loss));
            for (int i = 0; i <= 12; i++) {
                int over = i;
                int due = Math.max(0, over - loss);
                w.answers("Promise 18: " + over + " over, loss " + loss, due, x -> x.sort(0, 90 + loss + over, 1) + x.ofBoard(0, 1));
            }
        }
        World.pieces(1).then(x -> x.sort(0, 400, 1)).answers("Promise 18: the most, loss 1", 398, x -> x.ofBoard(0, 1));
        World.pieces(1).then(x -> x.sort(0, 400, 1)).answers("Promise 18: the most, no loss", 399, x -> x.saw(0) * 0 + x.ofBoard(0, 1));
        World.pieces(1).then(x -> x.sort(0, 400, 1)).answers("Promise 18: the most, loss 9", 390, x -> x.saw(9) * 0 + x.ofBoard(0, 1));
    }

    /** Promise 19: "OUTSIDE: length is not 1 to 400". */
    private static void otherTaken() {
        World w = World.pieces(1).then(x -> x.sort(0, 400, 1)).then(x -> x.saw(0));
        for (int length : new int[] {Integer.MIN_VALUE, -1, 0, 401, Integer.MAX_VALUE}) {
            w.refuses("Promise 19: other(" + length + ")", Due.OUTSIDE, x -> x.other(length));
        }
        w.answers("Promise 19: the least", 0, x -> x.other(1));
        w.answers("Promise 19: 2", 0, x -> x.other(2));
        w.answers("Promise 19: as much as ever is left", 0, x -> x.other(399));
        w.answers("Promise 19: so much never is", Due.NONE, x -> x.other(400));
    }

    /** "the board of which least is left that is as long or longer". */
    private static void otherAsLong() {
        World w = World.pieces(80, 90, 70).then(x -> x.saw(0)).then(x -> x.sort(0, 100, 1));
        int[][] rows = {{9, 1}, {10, 1}, {11, 0}, {19, 0}, {20, 0}, {21, 2}, {30, 2}, {31, Due.NONE}};
        for (int[] row : rows) {
            w.answers("Promise 19: other(" + row[0] + ")", row[1], x -> x.other(row[0]));
        }
        World nothing = World.pieces(100).then(x -> x.sort(0, 100, 1));
        nothing.answers("Promise 19: nothing is left", Due.NONE, x -> x.other(1));
        nothing.answers("Promise 19: the saw takes it", Due.NONE, x -> x.sort(0, 101, 1) * 0 + x.other(1));
        nothing.answers("Promise 19: one is left", 0, x -> x.sort(0, 102, 1) * 0 + x.other(1));
    }

    /** "of like ones the least". */
    private static void otherOfLike() {
        World w = World.pieces(70, 80, 80, 70).then(x -> x.saw(0)).then(x -> x.sort(0, 100, 1));
        w.answers("Promise 19: the second and third alike", 1, x -> x.other(20));
        w.answers("Promise 19: the first and last alike", 0, x -> x.other(21));
        int[] lengths = new int[12];
        Arrays.fill(lengths, 60);
        lengths[11] = 61;
        World twelve = World.pieces(lengths).then(x -> x.saw(0)).then(x -> x.sort(0, 100, 1));
        twelve.answers("Promise 19: the last has the least", 11, x -> x.other(39));
        twelve.answers("Promise 19: the others are alike", 0, x -> x.other(40));
    }
}
