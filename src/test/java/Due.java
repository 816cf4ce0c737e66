/** What the tests share: answers that are due, and numbers that look random but are the same in every run. */
final class Due {
    static final int UNKNOWN = -900001, OUTSIDE = -900002, STATE = -900003, FULL = -900004, NONE = -900009;

    private static int wrong = 0;
    private static int asked = 0;
    private static long seed = 20261118L;

    private Due() {
    }

    static void is(String call, long got, long want) {
        asked++;
        if (got != want) {
            wrong++;
            if (wrong <= 40) {
                System.out.println(call + " answered " + got + ", due is " + want);
            }
        }
    }

    static void truth(String what, boolean holds) {
        is(what, holds ? 1 : 0, 1);
    }

    static void end() {
        System.out.println(asked + " answers, " + wrong + " not as due");
        if (wrong != 0 || asked == 0) {
            System.exit(1);
        }
    }

    /** From least to most. */
    static int any(int least, int most) {
        seed = seed * 6364136223846793005L + 1442695040888963407L;
        return least + (int) ((seed >>> 33) % (most - least + 1));
    }

    static boolean chance(int inHundred) {
        return any(1, 100) <= inHundred;
    }

    /** An object with pieces of these lengths, all at place 0. */
    static BoxcarHouses pieces(int... lengths) {
        BoxcarHouses x = new BoxcarHouses();
        for (int length : lengths) {
            x.piece(0, length, 0, false);
        }
        return x;
    }

    /** Feeds a whole text, eight bytes a call: the last answer. */
    static int feed(BoxcarHouses x, int term, String text) {
        int answer = x.feed(term, 0L);
        for (int at = 0; at < text.length(); at += 8) {
            answer = x.feed(term, packed(text, at));
        }
        return answer;
    }

    static long packed(String text, int at) {
        long bytes = 0;
        for (int i = 0; i < 8 && at + i < text.length(); i++) {
            bytes |= (text.charAt(at + i) & 255L) << 8 * i;
        }
        return bytes;
    }
}
