/** Promises 10 to 12 and 16: set, seed, winters, hush; and what a WINTER is (Terms). */
final class WinterTest {
    public static void main(String[] args) {
        set();
        births();
        deaths();
        lackAsTheWinterBegins();
        gone();
        hush();
        finding();
        bounds();
        Check.finish();
    }

    private static void set() {
        HeadYear x = Check.valley("l;l;k");
        int[] most = {100, 1, 99};
        for (int what = 0; what < 3; what++) {
            Check.due("set(" + what + ", 0)", x.set(what, 0), true);
            Check.due("set(" + what + ", most)", x.set(what, most[what]), true);
            Check.due("set(" + what + ", more)", x.set(what, most[what] + 1), false);
            Check.due("set(" + what + ", -1)", x.set(what, -1), false);
            Check.due("set(" + what + ", MIN)", x.set(what, Integer.MIN_VALUE), false);
        }
        Check.due("set(3, 0)", x.set(3, 0), false);
        Check.due("set(-1, 0)", x.set(-1, 0), false);
        Check.due("PRICE of 99 for two", x.buy(0, 2), 198);
        x.set(2, 100);
        Check.due("refused: PRICE stays", x.buy(0, -1), 99);
        x.set(2, 0);
        Check.due("PRICE of 0", x.buy(0, 1), 0);
    }

    private static void births() {
        HeadYear x = Check.valley("l d0;l d0;k p4 b100 t0;k p4 b100 t100;k a1 p4 b0");
        Check.due("HEADS of all", x.winters(1), 4 + 1 + 4 + 2 + 4);
        Check.due("one born", x.family(0, 0), 5);
        Check.due("twins", x.family(1, 0), 6);
        Check.due("BORN of twins", x.family(1, 5), 2);
        Check.due("none born", x.family(2, 5), 0);
        Check.due("eight more winters", x.winters(8), 4 + 9 + 20 + 4);
        Check.due("20 at most", x.family(1, 0), 20);
        Check.due("BORN in all go on", x.family(1, 5), 18);
        Check.due("no more than 20 as parts", x.mean(1, 1), 20000);

        for (int seed = -3; seed < 200; seed++) {
            int[] draws = Check.draws(seed, 3);
            int born = draws[0] < 40 ? (draws[1] < 60 ? 2 : 1) : 0;
            x = Check.valley("l d0;l d0;k b40 t60");
            Check.due("seed", x.seed(seed), true);
            x.winters(1);
            Check.due("BORN by seed " + seed, x.family(0, 5), born);
        }
        for (int birth = 1; birth < 100; birth++) {
            x = Check.valley("l d0;l d0;k b" + birth);
            x.winters(1);
            Check.due("seed 0 at first, BIRTH " + birth, x.family(0, 5) > 0, Check.draws(0, 1)[0] < birth);
        }
        long big = 0x9E3779B97F4A7C15L;
        x = Check.valley("l d0;l d0;k b50 t50");
        x.seed(big);
        x.winters(1);
        int[] draws = Check.draws(big, 2);
        Check.due("BORN by a seed of 64 bits", x.family(0, 5), draws[0] < 50 ? (draws[1] < 50 ? 2 : 1) : 0);
    }

    private static void deaths() {
        // 9 heads, food 2, danger 10: 17 of 100 die; the heads that die are those there at first.
        for (int seed = 0; seed < 100; seed++) {
            int[] draws = Check.draws(seed, 40);
            int at = draws[0] < 50 ? 2 : 1;
            int born = draws[0] < 50 ? (draws[1] < 50 ? 2 : 1) : 0;
            int dead = 0;
            for (int head = 0; head < 9; head++) {
                dead += draws[at + head] < 17 ? 1 : 0;
            }
            HeadYear x = Check.valley("l f2 d10;l;k p9 b50 t50");
            x.seed(seed);
            Check.due("HEADS by seed " + seed, x.winters(1), 9 - dead + born);
            Check.due("DEAD by seed " + seed, x.family(0, 6), dead);
            Check.due("BORN by seed " + seed, x.family(0, 5), born);
            Check.due("up or not by seed " + seed, x.family(0, 1), born > dead ? 1 : 0);
        }
    }

    private static void lackAsTheWinterBegins() {
        for (int seed = 0; seed < 100; seed++) {
            int[] draws = Check.draws(seed, 60);
            int lack = 24;
            int at = 0;
            int[] heads = {12, 12};
            for (int family = 0; family < 2; family++) {
                at++;
                int dead = 0;
                for (int head = 0; head < 12; head++) {
                    dead += draws[at++] < lack + 50 ? 1 : 0;
                }
                heads[family] -= dead;
            }
            HeadYear x = Check.valley("l f0 d50;l d0;k p12 b0;k p12 b0");
            x.seed(seed);
            x.winters(1);
            Check.due("first HEADS by seed " + seed, x.family(0, 0), heads[0]);
            Check.due("second HEADS by seed " + seed, x.family(1, 0), heads[1]);
        }
    }

    /** A seed by whose first draws a single head without births dies at a DANGER of 50. */
    static int deadlySeed() {
        int seed = 0;
        while (Check.draws(seed, 2)[1] >= 50) {
            seed++;
        }
        return seed;
    }

    private static void gone() {
        HeadYear x = Check.valley("l d50 f99;l d0;k p1 b0;k a1 b0");
        x.seed(deadlySeed());
        x.hush(0, true);
        x.buy(0, 2);
        Check.due("HEADS of who is left", x.winters(1), 4);
        Check.family(x, 0, 0, -1, -1, 0, -1, 0, 1, 0, 0, 20);
        Check.due("its hut is empty", x.hut(0, 0), HeadYear.NONE);
        Check.due("FAMILIES GONE", x.count(7), 1);
        Check.due("no FAMILY there", Check.level(x, 0, 5), 0);
        Check.due("it counts as FAMILY", x.count(1), 2);
        Check.due("buy of who is GONE", x.buy(0, 1), HeadYear.NONE);
        Check.due("hush of who is GONE", x.hush(0, true), false);
        Check.due("no hush of who is GONE", x.hush(0, false), false);
        Check.due("odds of who is GONE", x.odds(0, 1, 0), HeadYear.HIDDEN);
        Check.due("mean of who is GONE", x.mean(0, 1), HeadYear.HIDDEN);
        Check.due("advice for who is GONE", x.advice(0, 1, 1, 0), HeadYear.HIDDEN);
        Check.due("needs of who is GONE", x.needs(0), HeadYear.NONE);
        Check.due("rank of who is GONE", x.rank(1), 0);
        Check.due("not WAITING", x.waiting(), 0);
        Check.due("GONE in the diary", x.diary(0, 0, 0), HeadYear.NONE);
        Check.due("without HEADS in the diary", x.diary(0, 0, 1), 0);
        Check.due("tried: GONE", x.tried(-1, 1, 3, 1), 3);
        x.winters(1);
        Check.due("GONE for good", x.family(0, 0), 0);

        // A DEBT is gone with who had it.
        for (int seed = 0; seed < 20; seed++) {
            x = Check.valley("l d50 f99 h1;l d0 h1;k p1 b0;k a1 b0");
            Check.tell(x, 1, "y:1");
            x.law(0);
            x.buy(0, 1);
            x.spring();
            x.seed(seed);
            x.winters(1);
            boolean left = Check.draws(seed, 2)[1] >= 50;
            Check.due("HEADS by seed " + seed, x.family(0, 0), left ? 1 : 0);
            Check.due("DEBT by seed " + seed, x.family(0, 3), left ? 1 : 0);
            Check.due("WANT by seed " + seed, x.family(0, 4), left ? 1 : -1);
        }

        // All GONE: winters go on without heads.
        x = Check.valley("l d50 f99;l;k p1 b0");
        x.seed(deadlySeed());
        Check.due("nobody left", x.winters(1), 0);
        Check.due("winters of nobody", x.winters(9), 0);
        Check.due("a spring of nobody", x.spring(), 0);
        Check.due("most of nobody", x.most(0), 0);
        Check.due("ten years", x.count(4), 10);
    }

    private static void hush() {
        HeadYear x = Check.valley("l;l;k;k");
        Check.due("hush(1, true)", x.hush(1, true), true);
        Check.due("hush(1, true) again", x.hush(1, true), false);
        Check.due("it is HUSHED", x.family(1, 8), 1);
        Check.due("the other is not", x.family(0, 8), 0);
        Check.due("hush(0, false)", x.hush(0, false), false);
        Check.due("hush(1, false)", x.hush(1, false), true);
        Check.due("it is not HUSHED", x.family(1, 8), 0);
        Check.due("hush(2, true)", x.hush(2, true), false);
        Check.due("hush(-1, true)", x.hush(-1, true), false);
    }

    private static void finding() {
        // Twins, hushed: four COUNTED if they are found, none else; five levels tell which.
        for (int seed = 0; seed < 1000; seed++) {
            int found = Check.draws(seed, 7)[6];
            HeadYear x = Check.valley("l d0;l d0;l d0;l d0;l d0;l d0;l d0;k b100 t100");
            x.seed(seed);
            x.hush(0, true);
            x.winters(1);
            Check.due("by FIND of 50, seed " + seed, x.family(0, 1), found < 50 ? 4 : 0);
            Check.due("BORN as they were", x.family(0, 5), 2);
            Check.due("HUSHED still", x.family(0, 8), 1);
        }
        // Without a birth nothing is drawn for finding: the other's draws come at once.
        for (int seed = 0; seed < 60; seed++) {
            HeadYear x = Check.valley("l d0;l d0;k p1 b0;k p1 b50 t0");
            x.seed(seed);
            x.hush(0, true);
            x.winters(1);
            Check.due("no draw without births, seed " + seed, x.family(1, 5), Check.draws(seed, 3)[2] < 50 ? 1 : 0);
        }
        HeadYear x = Check.valley("l d0;l d0;l d0;k b100 t0");
        x.hush(0, true);
        x.set(0, 0);
        x.winters(9);
        Check.due("never found", x.family(0, 1), 0);
        x.set(0, 100);
        x.winters(1);
        Check.due("always found", x.family(0, 1), 2);
        x = Check.valley("l d0;l d0;l d0;l d0;k b100 t0");
        x.hush(0, true);
        x.set(0, 100);
        x.winters(1);
        Check.due("one born counts two", x.family(0, 1), 2);
    }

    private static void bounds() {
        HeadYear x = Check.valley("l d0;l d0;k b0");
        Check.due("winters(0)", x.winters(0), HeadYear.NONE);
        Check.due("winters(10)", x.winters(10), HeadYear.NONE);
        Check.due("winters(-1)", x.winters(-1), HeadYear.NONE);
        Check.due("winters(MAX)", x.winters(Integer.MAX_VALUE), HeadYear.NONE);
        Check.due("no year passed", x.count(4), 0);
        for (int i = 0; i < 6; i++) {
            Check.due("winters(9)", x.winters(9), 4);
        }
        Check.due("seven beyond 60", x.winters(7), HeadYear.NONE);
        Check.due("54 years", x.count(4), 54);
        Check.due("the last six", x.winters(6), 4);
        Check.due("a 61st year", x.winters(1), HeadYear.NONE);
        Check.due("60 years", x.count(4), 60);
        Check.due("the last year of the diary", x.diary(0, 59, 1), 4);
        Check.due("climb in 60 years", x.climb(0, 0), 0);
        Check.due("leap in 60 years", x.leap(0), 0);
        Check.due("leanest of 60 years", x.leanest(0), 0);
        Check.due("image of 60 years", x.image(), 60);
        Check.due("back to 60 years", x.back(), 60);
        Check.due("tried beyond 60 years", x.tried(-1, 20, 10, 0), 40);
    }
}
