import java.util.NoSuchElementException;

/** What the tests share: answers that are due, texts put on the TAPE, the draws that are to come. */
final class Check {
    /** Stands for a NoSuchElementException among answers. */
    static final long THROWS = Long.MIN_VALUE;

    private static int wrong = 0;

    private Check() {
    }

    static void due(String what, long got, long want) {
        if (got != want) {
            wrong++;
            System.out.println(what + " answered " + got + ", due is " + want);
        }
    }

    static void due(String what, boolean got, boolean want) {
        due(what, got ? 1 : 0, want ? 1 : 0);
    }

    static void due(String what, String got, String want) {
        if (!got.equals(want)) {
            wrong++;
            System.out.println(what + ":\n  is  " + got + "\n  due " + want);
        }
    }

    static void finish() {
        if (wrong != 0) {
            System.out.println(wrong + " answers are not as due");
            System.exit(1);
        }
    }

    /** Twenty bytes from a place of a text on, packed as feed wants them. */
    static int[] words(String text, int from) {
        int[] words = new int[5];
        for (int i = 0; i < 20; i++) {
            int sign = from + i < text.length() ? text.charAt(from + i) : 0;
            words[i / 4] |= sign << 24 - i % 4 * 8;
        }
        return words;
    }

    static int feed(HeadYear x, String text) {
        int answer = x.count(3);
        for (int from = 0; from < text.length(); from += 20) {
            int[] w = words(text, from);
            answer = x.feed(w[0], w[1], w[2], w[3], w[4]);
        }
        return answer;
    }

    static int tell(HeadYear x, int sort, String text) {
        x.end(0);
        feed(x, text);
        return x.text(sort);
    }

    static HeadYear valley(String text) {
        HeadYear x = new HeadYear();
        due("the families of " + text, tell(x, 0, text), text.chars().filter(c -> c == 'k').count());
        return x;
    }

    static int fault(int sort, String text) {
        HeadYear x = new HeadYear();
        feed(x, text);
        return x.fault(sort);
    }

    static long level(HeadYear x, int level, int what) {
        try {
            return x.level(level, what);
        } catch (NoSuchElementException e) {
            return THROWS;
        }
    }

    /** The draws of 100 that come first behind a seed. */
    static int[] draws(long seed, int n) {
        int[] draws = new int[n];
        long x = seed;
        for (int i = 0; i < n; i++) {
            x = x * 6364136223846793005L + 1442695040888963407L;
            draws[i] = (int) ((x >>> 33) % 100);
        }
        return draws;
    }

    /** What a FAMILY is asked for, 0 to 9, in one line. */
    static void family(HeadYear x, int family, long... want) {
        for (int what = 0; what < want.length; what++) {
            due("family(" + family + ", " + what + ")", x.family(family, what), want[what]);
        }
    }
}
