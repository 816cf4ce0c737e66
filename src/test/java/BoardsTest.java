/** Promises 13 to 19: boards, against the document's words and against all cuts that there are. */
public final class BoardsTest {
    private static final int MOST = Integer.MAX_VALUE, LEAST = Integer.MIN_VALUE;

    public static void main(String[] args) {
        sort();
        saw();
        price();
        fewestBoards();
        leastNumbers();
        board();
        ofBoard();
        left();
        other();
        forgetting();
        twelve();
        for (int run = 0; run < 600; run++) {
            anyCut(Due.any(0, 6));
        }
        for (int run = 0; run < 12; run++) {
            anyCut(8);
        }
        for (int run = 0; run < 20; run++) {
            anyCut(9 + run % 4);
        }
        Due.end();
    }

    /** Promise 13. */
    private static void sort() {
        BoxcarHouses x = Due.pieces(10);
        for (int s : new int[] {-1, 4, MOST, LEAST}) {
            Due.is("sort(" + s + ", 1, 1)", x.sort(s, 1, 1), Due.UNKNOWN);
            Due.is("sort(" + s + ", -1, -1)", x.sort(s, -1, -1), Due.UNKNOWN);
        }
        for (int[] b : new int[][] {{-1, 0}, {401, 0}, {1, -1}, {1, 10000}, {MOST, 1}, {1, MOST}, {LEAST, LEAST}}) {
            Due.is("sort outside", x.sort(0, b[0], b[1]), Due.OUTSIDE);
        }
        Due.is("none came", x.price(), Due.NONE);
        Due.is("sort(0, 400, 9999)", x.sort(0, 400, 9999), 0);
        Due.is("the dearest", x.price(), 9999);
        Due.is("sort(3, 10, 0)", x.sort(3, 10, 0), 0);
        Due.is("the cheapest", x.price(), 0);
        Due.is("sort 3 goes", x.sort(3, 0, 0), 10);
        Due.is("the dearest again", x.price(), 9999);
        Due.is("sort 0 goes", x.sort(0, 0, 5), 400);
        Due.is("sort 0 comes", x.sort(0, 7, 5), 0);
        Due.is("sort 0 was", x.sort(0, 9, 5), 7);
        Due.is("too short", x.price(), Due.NONE);
    }

    /** Promise 14. */
    private static void saw() {
        BoxcarHouses x = Due.pieces(10, 10);
        for (int v : new int[] {-1, 10, MOST, LEAST}) {
            Due.is("saw(" + v + ")", x.saw(v), Due.OUTSIDE);
        }
        x.sort(0, 20, 3);
        Due.is("one is lost", x.boards(), 2);
        Due.is("saw(0)", x.saw(0), 1);
        Due.is("none is lost", x.boards(), 1);
        Due.is("saw(9)", x.saw(9), 0);
        x.sort(0, 28, 3);
        Due.is("a little too long", x.boards(), 2);
        x.sort(0, 29, 3);
        Due.is("just so", x.boards(), 1);
        Due.is("saw(1)", x.saw(1), 9);
    }

    /** Promises 15 and 16. */
    private static void price() {
        BoxcarHouses x = new BoxcarHouses();
        Due.is("no pieces, no boards", x.price(), 0);
        Due.is("none", x.boards(), 0);
        x.sort(1, 100, 10);
        Due.is("no pieces", x.price(), 0);
        x.piece(0, 50, 0, false);
        x.piece(0, 49, 0, false);
        Due.is("both from one", x.price(), 10);
        x.sort(2, 50, 4);
        Due.is("two short ones are cheaper", x.price(), 8);
        Due.is("two", x.boards(), 2);
        x.piece(0, 101, 0, false);
        Due.is("longer than all", x.price(), Due.NONE);
        Due.is("boards", x.boards(), Due.NONE);
        x.sort(0, 101, 9999);
        Due.is("now it goes", x.price(), 10007);
    }

    private static void fewestBoards() {
        BoxcarHouses x = Due.pieces(50, 49);
        x.sort(0, 50, 5);
        x.sort(1, 100, 10);
        Due.is("of like price", x.price(), 10);
        Due.is("the fewest", x.boards(), 1);
        Due.is("its sort", x.ofBoard(0, 0), 1);
        x.sort(1, 100, 0);
        x.sort(0, 50, 0);
        Due.is("at no price", x.boards(), 1);
    }

    /** The first board is not as full as it may be, if that lets an earlier piece have a lesser number. */
    private static void leastNumbers() {
        BoxcarHouses x = Due.pieces(60, 30, 30, 40);
        x.saw(0);
        x.sort(0, 100, 1);
        int[] due = {0, 0, 1, 1};
        for (int p = 0; p < 4; p++) {
            Due.is("least numbers, piece " + p, x.board(p), due[p]);
        }
        BoxcarHouses y = Due.pieces(50, 60, 40, 50);
        y.saw(0);
        y.sort(0, 100, 1);
        Due.is("boards", y.boards(), 2);
        Due.is("only so", y.board(3), 0);
        BoxcarHouses z = Due.pieces(70, 60, 40, 30);
        z.saw(0);
        z.sort(0, 100, 1);
        z.sort(1, 70, 1);
        int[] dueThen = {0, 1, 1, 0};
        for (int p = 0; p < 4; p++) {
            Due.is("least numbers still, piece " + p, z.board(p), dueThen[p]);
        }
        z.piece(0, 100, 0, false);
        Due.is("a third", z.board(4), 2);
    }

    /** Promise 17. */
    private static void board() {
        BoxcarHouses x = Due.pieces(30, 30);
        Due.is("no sorts", x.board(0), Due.NONE);
        Due.is("no such piece", x.board(2), Due.UNKNOWN);
        x.sort(0, 31, 1);
        Due.is("board(0)", x.board(0), 0);
        Due.is("board(1)", x.board(1), 1);
        for (int p : new int[] {-1, 2, 12, MOST, LEAST}) {
            Due.is("board(" + p + ")", x.board(p), Due.UNKNOWN);
        }
    }

    /** Promise 18. */
    private static void ofBoard() {
        BoxcarHouses x = Due.pieces(30, 50);
        Due.is("no sorts", x.ofBoard(0, 0), Due.UNKNOWN);
        Due.is("no sorts, outside", x.ofBoard(0, 2), Due.UNKNOWN);
        x.sort(3, 30, 2);
        x.sort(1, 60, 2);
        x.sort(2, 60, 2);
        x.sort(0, 60, 3);
        Due.is("the least sort of like ones", x.ofBoard(0, 0), 1);
        Due.is("likewise", x.ofBoard(1, 0), 1);
        x.sort(3, 30, 1);
        Due.is("the cheaper", x.ofBoard(0, 0), 3);
        Due.is("left", x.ofBoard(1, 1), 9);
        for (int b : new int[] {-1, 2, MOST, LEAST}) {
            Due.is("ofBoard(" + b + ", 0)", x.ofBoard(b, 0), Due.UNKNOWN);
            Due.is("ofBoard(" + b + ", 2)", x.ofBoard(b, 2), Due.UNKNOWN);
        }
        for (int what : new int[] {-1, 2, MOST, LEAST}) {
            Due.is("ofBoard(1, " + what + ")", x.ofBoard(1, what), Due.OUTSIDE);
        }
    }

    private static void left() {
        for (int loss = 0; loss <= 9; loss++) {
            BoxcarHouses x = Due.pieces(30, 30);
            x.saw(loss);
            for (int length = 60 + loss; length < 85; length++) {
                x.sort(0, length, 1);
                int over = length - 60 - loss;
                Due.is("left", x.ofBoard(0, 1), over == 0 ? 0 : over < loss ? 0 : over - loss);
            }
        }
    }

    /** Promise 19. */
    private static void other() {
        BoxcarHouses x = Due.pieces(100, 90, 90, 60);
        for (int length : new int[] {0, 401, -1, MOST, LEAST}) {
            Due.is("other(" + length + ")", x.other(length), Due.OUTSIDE);
        }
        Due.is("no sorts", x.other(1), Due.NONE);
        x.saw(0);
        x.sort(0, 110, 1);
        Due.is("the shortest", x.other(10), 0);
        Due.is("of like ones the least", x.other(11), 1);
        Due.is("as long", x.other(20), 1);
        Due.is("longer", x.other(21), 3);
        Due.is("just so", x.other(50), 3);
        Due.is("none", x.other(51), Due.NONE);
        Due.is("none at all", x.other(400), Due.NONE);
        Due.is("the least length", x.other(1), 0);
        x.sort(0, 100, 1);
        Due.is("nothing left of the first", x.other(1), 1);
    }

    /** Whatever the cut hangs on changes, the answers are of what is there now. */
    private static void forgetting() {
        BoxcarHouses x = Due.pieces(40);
        x.sort(0, 81, 7);
        Due.is("one", x.price(), 7);
        x.piece(0, 40, 0, false);
        Due.is("two from one", x.boards(), 1);
        x.saw(2);
        Due.is("two from two", x.price(), 14);
        x.saw(1);
        x.piece(100, 1, 0, false);
        Due.is("a third", x.boards(), 2);
        Due.is("stretch", x.stretch(40, 1), 0);
        Due.is("nothing longer", x.boards(), 2);
        Due.is("stretch two", x.stretch(39, 1), 2);
        Due.is("three", x.boards(), 2);
        Due.is("the board of the last", x.board(2), 0);
        Due.is("a refused sort", x.sort(0, 81, -1), Due.OUTSIDE);
        Due.is("changes nothing", x.price(), 14);
        x.mirror();
        Due.is("nor does a mirror", x.price(), 14);
    }

    /** The most pieces, at the most price: nothing runs over. */
    private static void twelve() {
        BoxcarHouses x = Due.pieces(200, 200, 200, 200, 200, 200, 200, 200, 200, 200, 200, 200);
        x.sort(0, 400, 9999);
        Due.is("twelve boards", x.boards(), 12);
        Due.is("at the most", x.price(), 119988);
        for (int p = 0; p < 12; p++) {
            Due.is("each by itself", x.board(p), p);
            Due.is("left", x.ofBoard(p, 1), 199);
        }
        Due.is("no thirteenth", x.ofBoard(12, 0), Due.UNKNOWN);
        x.saw(0);
        Due.is("six boards", x.boards(), 6);
        Due.is("at half of it", x.price(), 59994);
        for (int p = 0; p < 12; p++) {
            Due.is("by twos", x.board(p), p / 2);
        }
        Due.is("nothing left", x.ofBoard(5, 1), 0);
        BoxcarHouses y = Due.pieces(1, 1, 1, 1, 1, 1, 1, 1, 1, 1, 1, 1);
        y.sort(2, 23, 0);
        Due.is("all from one", y.boards(), 1);
        Due.is("at no price", y.price(), 0);
        y.sort(2, 22, 0);
        Due.is("the last by itself", y.board(11), 1);
        Due.is("the one ahead is not", y.board(10), 0);
        Due.is("left of the last", y.ofBoard(1, 1), 20);
    }

    private static int[] sizes;
    private static int[] sortLength;
    private static int[] sortPrice;
    private static int loss;
    private static int[] now;
    private static int[] best;
    private static int bestPrice;
    private static int bestBoards;

    /** All cuts, told as rows of numbers in their order: the first of the best is due. */
    private static void anyCut(int n) {
        BoxcarHouses x = new BoxcarHouses();
        sizes = new int[n];
        now = new int[n];
        best = null;
        int most = Due.any(1, 20) * 10;
        for (int p = 0; p < n; p++) {
            sizes[p] = Due.any(1, most);
            x.piece(0, sizes[p], 0, false);
        }
        sortLength = new int[4];
        sortPrice = new int[4];
        for (int s = 0; s < 4; s++) {
            sortLength[s] = Due.chance(25) ? 0 : Due.any(1, 400);
            sortPrice[s] = Due.chance(40) ? Due.any(0, 3) : Due.any(0, 40);
            x.sort(s, sortLength[s], sortPrice[s]);
        }
        loss = Due.any(0, 9);
        x.saw(loss);
        tryAll(0, 0);
        compare(x, n);
    }

    private static void compare(BoxcarHouses x, int n) {
        Due.is("any price", x.price(), best == null ? Due.NONE : bestPrice);
        Due.is("any boards", x.boards(), best == null ? Due.NONE : bestBoards);
        for (int p = 0; p < n; p++) {
            Due.is("any board", x.board(p), best == null ? Due.NONE : best[p]);
        }
        int boards = best == null ? 0 : bestBoards;
        int[] left = new int[boards];
        for (int b = 0; b < boards; b++) {
            int length = lengthOf(best, b, n);
            int sort = sortFor(length);
            left[b] = sortLength[sort] - length;
            left[b] = left[b] > 0 ? Math.max(0, left[b] - loss) : 0;
            Due.is("any sort", x.ofBoard(b, 0), sort);
            Due.is("any left", x.ofBoard(b, 1), left[b]);
        }
        Due.is("no board more", x.ofBoard(boards, 0), Due.UNKNOWN);
        for (int length = 1; length <= 400; length += 7) {
            int due = Due.NONE;
            for (int b = boards - 1; b >= 0; b--) {
                if (left[b] >= length && (due == Due.NONE || left[b] <= left[due])) {
                    due = b;
                }
            }
            Due.is("any other", x.other(length), due);
        }
    }

    private static void tryAll(int piece, int boards) {
        if (piece == sizes.length) {
            weigh(boards);
            return;
        }
        for (int b = 0; b <= boards; b++) {
            now[piece] = b;
            tryAll(piece + 1, Math.max(boards, b + 1));
        }
    }

    private static void weigh(int boards) {
        int price = 0;
        for (int b = 0; b < boards; b++) {
            int sort = sortFor(lengthOf(now, b, sizes.length));
            if (sort < 0) {
                return;
            }
            price += sortPrice[sort];
        }
        if (best == null || price < bestPrice || price == bestPrice && boards < bestBoards) {
            best = now.clone();
            bestPrice = price;
            bestBoards = boards;
        }
    }

    private static int lengthOf(int[] from, int board, int n) {
        int length = 0;
        int many = 0;
        for (int p = 0; p < n; p++) {
            if (from[p] == board) {
                length += sizes[p];
                many++;
            }
        }
        return length + (many - 1) * loss;
    }

    private static int sortFor(int length) {
        int found = -1;
        for (int s = 3; s >= 0; s--) {
            if (sortLength[s] >= length && (found < 0 || sortPrice[s] <= sortPrice[found])) {
                found = s;
            }
        }
        return found;
    }
}
