/** Promises 20 and 31: odds, mean. */
final class OddsTest {
    public static void main(String[] args) {
        oneWinter();
        cuts();
        twoWinters();
        brow();
        byLaw();
        alone();
        twenty();
        refused();
        Check.finish();
    }

    /** ODDS to be at each LEVEL, and last GONE. */
    private static void odds(HeadYear x, int family, int n, long... want) {
        for (int level = 0; level + 1 < want.length; level++) {
            Check.due("odds(" + family + ", " + n + ", " + level + ")", x.odds(family, n, level), want[level]);
        }
        Check.due("odds(" + family + ", " + n + ", GONE)", x.odds(family, n, HeadYear.NONE), want[want.length - 1]);
    }

    private static void oneWinter() {
        // One head: born none 600, one 300, two 100 of 1000; 20 of 100 die.
        HeadYear x = Check.valley("l d20;l d20;l d20;l d20;k p1 a1 b40 t25");
        // none: dies -> GONE, lives -> 1; one: dies -> 1 (1 head), lives -> 2 (2); two: dies -> 2 (2), lives -> 3 (3)
        odds(x, 0, 1, 0, 480000000 + 60000000, 240000000 + 20000000, 80000000, 120000000);
        Check.due("mean(0, 1)", x.mean(0, 1), 480 + 60 + 2 * 240 + 2 * 20 + 3 * 80);
    }

    private static void cuts() {
        // 3 heads, 33 of 100 die, 1 of 100 is born, 1 of 100 of these twice.
        HeadYear x = Check.valley("l d33;l d33;l d33;k p3 a1 b1 t1");
        long births = 10000000;
        long twins = 100000;
        long[] shares = {1000000000L - births, births - twins, twins};
        long[] at = new long[3];
        long gone = 0;
        long heads = 0;
        for (int born = 0; born < 3; born++) {
            long[] dead = {shares[born], 0, 0, 0};
            for (int head = 0; head < 3; head++) {
                long[] next = new long[4];
                for (int d = 0; d <= head; d++) {
                    long die = dead[d] * 33 / 100;
                    next[d] += dead[d] - die;
                    next[d + 1] += die;
                }
                dead = next;
            }
            for (int d = 0; d < 4; d++) {
                if (3 - d + born == 0) {
                    gone += dead[d];
                } else {
                    at[Math.max(0, Math.min(2, 1 + born - d))] += dead[d];
                    heads += dead[d] * (3 - d + born);
                }
            }
        }
        odds(x, 0, 1, at[0], at[1], at[2], gone);
        Check.due("mean is cut", x.mean(0, 1), heads / 1000000);
        Check.due("all parts together", at[0] + at[1] + at[2] + gone, 1000000000L);
    }

    private static void twoWinters() {
        // One head, no births, half dies: up to 9 winters.
        HeadYear x = Check.valley("l d50;l;k p1 b0");
        long left = 1000000000L;
        for (int n = 1; n <= 9; n++) {
            left -= left / 2;
            odds(x, 0, n, left, 0, 1000000000L - left);
            Check.due("mean(0, " + n + ")", x.mean(0, n), left / 1000000);
        }
        // One up a winter by births alone.
        x = Check.valley("l d0;l d0;l d0;l d0;k p1 b50 t0");
        odds(x, 0, 1, 500000000, 500000000, 0, 0, 0);
        odds(x, 0, 2, 250000000, 500000000, 250000000, 0, 0);
        odds(x, 0, 3, 125000000, 375000000, 375000000, 125000000, 0);
        odds(x, 0, 4, 62500000, 250000000, 375000000, 312500000, 0);
        Check.due("mean of two", x.mean(0, 2), 2000);
    }

    private static void brow() {
        HeadYear x = Check.valley("l d0;l d0 s1;l d0;k p1 b100 t0");
        odds(x, 0, 1, 0, 1000000000, 0, 0);
        odds(x, 0, 9, 0, 1000000000, 0, 0);
        Check.due("HEADS grow at a BROW, too", x.mean(0, 9), 10000);
    }

    private static void byLaw() {
        HeadYear x = Check.valley("l d0;l d0;l d0;l d0;k p1 b0 a1;k p2 b100 t100 a1");
        Check.tell(x, 1, "y:y=2?2;y:y>2?0-1;y:h=1&o=0&p=1?0-1;y:b=2&d=0&p=4?1;y:0");
        x.law(0);
        odds(x, 0, 1, 1000000000, 0, 0, 0, 0);
        odds(x, 0, 2, 0, 0, 1000000000, 0, 0);
        odds(x, 0, 3, 0, 1000000000, 0, 0, 0);
        odds(x, 1, 1, 0, 0, 1000000000, 0, 0);
        x.winters(1);
        // The YEAR goes on from YEARS: this is the second one.
        Check.due("it is at level 0", x.family(0, 1), 0);
        odds(x, 0, 1, 0, 0, 1000000000, 0, 0);
        x.law(HeadYear.NONE);
        odds(x, 0, 1, 1000000000, 0, 0, 0, 0);
    }

    private static void alone() {
        // LACK, HUSHING, full levels, DEBT and what is BOUGHT are not asked.
        HeadYear x = Check.valley("l h1 f0 d0;l h1 f0 d0;l h1 d0;k p12 b100 t0;k p12 a1 b0");
        x.hush(0, true);
        x.set(0, 0);
        x.buy(0, 2);
        odds(x, 0, 1, 0, 1000000000, 0, 0);
        odds(x, 0, 2, 0, 0, 1000000000, 0);
        Check.due("without LACK", x.mean(0, 2), 14000);
        x = Check.valley("l h1 d0;l h1 d0;k b0;k a1 b0");
        x.buy(0, 1);
        x.spring();
        Check.due("DEBT of 1", x.family(0, 3), 1);
        odds(x, 0, 1, 1000000000, 0, 0);
        Check.due("DEBT stays", x.family(0, 3), 1);
        Check.due("no YEAR has passed", x.count(4), 0);
        x.seed(0);
        x.winters(1);
        Check.due("no draw was taken", x.family(0, 5), 0);
    }

    private static void twenty() {
        HeadYear x = Check.valley("l d0;l d0;k p12 b100 t100");
        Check.due("20 at most", x.mean(0, 5), 20000);
        odds(x, 0, 9, 0, 1000000000, 0);
        x = Check.valley("l d50 s1;l;k p12 b100 t100");
        long sum = (long) x.odds(0, 9, 0) + x.odds(0, 9, 1) + x.odds(0, 9, -1);
        Check.due("no part is lost", sum, 1000000000);
    }

    private static void refused() {
        HeadYear x = Check.valley("l;l;k");
        Check.due("odds(1, 1, 0)", x.odds(1, 1, 0), HeadYear.HIDDEN);
        Check.due("odds(-1, 1, 0)", x.odds(-1, 1, 0), HeadYear.HIDDEN);
        Check.due("odds(0, 0, 0)", x.odds(0, 0, 0), HeadYear.HIDDEN);
        Check.due("odds(0, 10, 0)", x.odds(0, 10, 0), HeadYear.HIDDEN);
        Check.due("odds(0, 1, 2)", x.odds(0, 1, 2), HeadYear.HIDDEN);
        Check.due("odds(0, 1, -2)", x.odds(0, 1, -2), HeadYear.HIDDEN);
        Check.due("mean(1, 1)", x.mean(1, 1), HeadYear.HIDDEN);
        Check.due("mean(-1, 1)", x.mean(-1, 1), HeadYear.HIDDEN);
        Check.due("mean(0, 0)", x.mean(0, 0), HeadYear.HIDDEN);
        Check.due("mean(0, 10)", x.mean(0, 10), HeadYear.HIDDEN);
    }
}
