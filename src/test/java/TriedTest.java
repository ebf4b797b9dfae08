/** Promises 21, 22 and 32: tried, reform, advice. */
final class TriedTest {
    public static void main(String[] args) {
        likeWinters();
        waitingAndGone();
        reform();
        advice();
        adviceBounds();
        refused();
        Check.finish();
    }

    private static final String VALLEY = "l h1 f9 d9;l h2 f5 d2;l h2 f3 d30 s1;k a1 b50 t20;k a1 b40 t50;k b60 t10 p2";

    /** A valley in the midst of things: debts, buyings, a hushed one, luck. */
    private static HeadYear midst(boolean told) {
        HeadYear x = Check.valley(VALLEY);
        Check.tell(x, 1, "y:b>d?1;y:0-1");
        Check.tell(x, 1, "y:y/2-h");
        x.law(1);
        x.set(0, 70);
        x.set(1, 1);
        x.seed(12);
        x.hush(1, true);
        x.winters(3);
        x.buy(0, -1);
        x.buy(2, 2);
        x.law(told ? 0 : HeadYear.NONE);
        return x;
    }

    private static void likeWinters() {
        for (int law = -1; law < 1; law++) {
            for (int n = 1; n <= 20; n += 1 + n / 3) {
                int heads = 0;
                int gone = 0;
                int waiting = 0;
                for (int k = 1; k <= 10; k++) {
                    HeadYear x = midst(law == 0);
                    x.seed(k - 1);
                    int left = n;
                    while (left > 0) {
                        x.winters(Math.min(9, left));
                        left -= 9;
                    }
                    heads += x.hungry(1) < 0 ? 0 : Check.level(x, 0, 4) + Check.level(x, 1, 4) + Check.level(x, 2, 4);
                    gone += x.count(7);
                    waiting += Integer.bitCount(x.waiting());
                    HeadYear y = midst(true);
                    Check.due("tried(" + law + ", " + n + ", " + k + ", 0)", y.tried(law, n, k, 0), heads);
                    Check.due("tried(" + law + ", " + n + ", " + k + ", 1)", y.tried(law, n, k, 1), gone);
                    Check.due("tried(" + law + ", " + n + ", " + k + ", 2)", y.tried(law, n, k, 2), waiting);
                    int ahead = midst(true).winters(2);
                    Check.due("tried apart", y.winters(2), ahead);
                    Check.due("buyings stay till then", midst(true).count(6), 2);
                }
            }
        }
        HeadYear x = midst(true);
        x.tried(1, 20, 10, 0);
        Check.due("the law that holds stays", x.count(5), 0);
        Check.due("YEARS stay", x.count(4), 3);
        Check.due("buyings stay", x.count(6), 2);
        Check.due("BOUGHT stays", x.family(2, 7), 2);
    }

    private static void waitingAndGone() {
        HeadYear x = Check.valley("l h1 d0;l h1 d0;k b100 t0;k a1 b0");
        Check.due("one waits, of each seed", x.tried(-1, 1, 10, 2), 10);
        x = Check.valley("l d50;l d50;k p1 b0;k p1 b0");
        int gone = 0;
        for (int seed = 0; seed < 10; seed++) {
            int[] draws = Check.draws(seed, 4);
            gone += (draws[1] < 50 ? 1 : 0) + (draws[3] < 50 ? 1 : 0);
        }
        Check.due("GONE", x.tried(-1, 1, 10, 1), gone);
        Check.due("HEADS", x.tried(-1, 1, 10, 0), 20 - gone);
    }

    private static void reform() {
        // At level 0 half of all die in each winter, at level 1 nobody does.
        HeadYear x = Check.valley("l d50 f99;l h4 d0 f99;k p12 b0;k p12 b0");
        Check.due("without laws", x.reform(5, 5), HeadYear.NONE);
        Check.tell(x, 1, "y:0-1");
        Check.due("no better law", x.reform(5, 5), HeadYear.NONE);
        Check.tell(x, 1, "y:1");
        Check.tell(x, 1, "y:2");
        Check.due("of several the lowest", x.reform(5, 5), 1);
        Check.due("n of 1: none is better", x.reform(1, 10), HeadYear.NONE);
        Check.due("by seeds", x.reform(20, 10), 1);
        Check.due("no law holds then", x.count(5), HeadYear.NONE);
        x = Check.valley("l d50 f99;l h4 d0 f99;k p12 b0;k p12 b0");
        Check.tell(x, 1, "y:1");
        x.law(0);
        Check.due("of none and laws, whichever holds", x.reform(3, 3), 0);
        x = Check.valley("l d0 f99;l d0 f99;k b0");
        Check.tell(x, 1, "y:1");
        x.law(0);
        Check.due("of several none", x.reform(3, 3), HeadYear.NONE);
    }

    private static void advice() {
        // Level 2 is safe, level 0 deadly; two up is needed, three is the same by the upper end.
        HeadYear x = Check.valley("l d50 f99;l d50 f99;l d0 f99;k p12 b0;k b100 t100");
        Check.tell(x, 1, "y:0");
        x.law(0);
        Check.due("two up", x.advice(0, 9, 5, 0), 2);
        int heads = x.advice(0, 9, 5, 1);
        x.buy(0, 1);
        Check.due("one more", x.advice(0, 9, 5, 0), 1);
        Check.due("HEADS as ahead", x.advice(0, 9, 5, 1), heads);
        x.buy(0, 1);
        Check.due("nothing more", x.advice(0, 9, 5, 0), 0);
        x.buy(0, 1);
        Check.due("three are as good", x.advice(0, 9, 5, 0), 0);
        int own = 0;
        for (int seed = 0; seed < 5; seed++) {
            HeadYear y = Check.valley("l d50 f99;l d50 f99;l d0 f99;k p12 b0;k b100 t100");
            Check.tell(y, 1, "y:0");
            y.law(0);
            y.seed(seed);
            y.buy(0, 2);
            y.winters(9);
            own += y.family(0, 0);
        }
        Check.due("its own HEADS, all seeds together", heads, own);
        Check.due("nothing was BOUGHT by advice", x.family(0, 7), 3);
        Check.due("nothing was spent by advice", x.family(0, 9), 30);
        Check.due("in one winter nothing helps", x.advice(0, 1, 10, 0), 0);

        // Up and down are as good: the lower one.
        x = Check.valley("l d0 f99;l d50 f99;l d0 f99;k p12 b0 a1");
        Check.tell(x, 1, "y:0");
        x.law(0);
        Check.due("of two the lower", x.advice(0, 9, 10, 0), -1);

        for (int down = 1; down <= 3; down++) {
            x = Check.valley("l d0 f99;l d" + (down < 3 ? 0 : 50) + " f99;l d" + (down < 2 ? 0 : 50)
                    + " f99;l d50 f99;l d50 f99;k p12 b0 a3");
            Check.tell(x, 1, "y:0");
            x.law(0);
            Check.due("down to the nearest safe one", x.advice(0, 9, 10, 0), -down);
        }

        // By the law that holds: the one takes it up by itself, the other does not.
        x = Check.valley("l d50 f99;l d0 f99;k p12 b0");
        Check.tell(x, 1, "y:1");
        Check.tell(x, 1, "y:0");
        x.law(1);
        Check.due("by law 1: one up", x.advice(0, 9, 10, 0), 1);
        x.law(0);
        Check.due("by law 0: nothing", x.advice(0, 9, 10, 0), 0);
    }

    private static void adviceBounds() {
        // All together from -3 up to 3: six more from -3 on.
        HeadYear x = Check.valley("l d50 f99;l d50 f99;l d50 f99;l d50 f99;l d50 f99;l d50 f99;l d0 f99;k p12 b0 a3");
        Check.tell(x, 1, "y:0");
        x.law(0);
        x.buy(0, -3);
        Check.due("six more", x.advice(0, 9, 10, 0), 6);
        x.undo();
        Check.due("three more", x.advice(0, 9, 10, 0), 3);
        x.buy(0, 1);
        Check.due("two more", x.advice(0, 9, 10, 0), 2);
        x.undo();
        for (int i = 0; i < 40; i++) {
            x.buy(0, i % 2 == 0 ? 1 : -1);
        }
        Check.due("40 buyings are not asked", x.advice(0, 9, 10, 0), 3);
        x = Check.valley("l d0 f99;l d50 f99;l d50 f99;l d50 f99;l d50 f99;k p12 b0 a4");
        Check.tell(x, 1, "y:0");
        x.law(0);
        Check.due("no more than three: nothing is as good", x.advice(0, 2, 1, 0), 0);
    }

    private static void refused() {
        HeadYear x = Check.valley("l;l;k");
        Check.tell(x, 1, "y:1");
        int[][] bad = {{0, 1}, {21, 1}, {1, 0}, {1, 11}, {-1, 1}, {1, -1}};
        for (int[] nk : bad) {
            Check.due("tried, n " + nk[0] + ", k " + nk[1], x.tried(-1, nk[0], nk[1], 0), HeadYear.HIDDEN);
            Check.due("reform, n " + nk[0] + ", k " + nk[1], x.reform(nk[0], nk[1]), HeadYear.HIDDEN);
            Check.due("advice, n " + nk[0] + ", k " + nk[1], x.advice(0, nk[0], nk[1], 0), HeadYear.HIDDEN);
        }
        Check.due("tried(1, 1, 1, 0)", x.tried(1, 1, 1, 0), HeadYear.HIDDEN);
        Check.due("tried(-2, 1, 1, 0)", x.tried(-2, 1, 1, 0), HeadYear.HIDDEN);
        Check.due("tried(0, 1, 1, 3)", x.tried(0, 1, 1, 3), HeadYear.HIDDEN);
        Check.due("tried(0, 1, 1, -1)", x.tried(0, 1, 1, -1), HeadYear.HIDDEN);
        Check.due("tried(0, 20, 10, 0) is told", x.tried(0, 20, 10, 0) >= 0, true);
        Check.due("reform(20, 10) is told", x.reform(20, 10) >= -1, true);
        Check.due("advice(0, 20, 10, 1) is told", x.advice(0, 20, 10, 1) >= 0, true);
        Check.due("advice(1, 1, 1, 0)", x.advice(1, 1, 1, 0), HeadYear.HIDDEN);
        Check.due("advice(-1, 1, 1, 0)", x.advice(-1, 1, 1, 0), HeadYear.HIDDEN);
        Check.due("advice(0, 1, 1, 2)", x.advice(0, 1, 1, 2), HeadYear.HIDDEN);
        Check.due("advice(0, 1, 1, -1)", x.advice(0, 1, 1, -1), HeadYear.HIDDEN);
    }
}
