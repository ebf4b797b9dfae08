/** Promises 23, 24, 28 to 30, 33 and 34: diary, climb, met, leap, leanest, image, back. */
final class DiaryTest {
    public static void main(String[] args) {
        ways();
        noClimb();
        nothingYet();
        goneBetween();
        leanest();
        refused();
        image();
        imageKeeps();
        imageOfHuts();
        Check.finish();
    }

    /** FAMILY 0 is at these LEVELS behind its YEARS, by what is BOUGHT; FAMILY 1 stays at LEVEL 0. */
    private static HeadYear way(int... levels) {
        HeadYear x = Check.valley("l d0;l d0;l d0;l d0;l d0;l d0;l d0;l d0;k b0;k b0");
        int at = 0;
        for (int level : levels) {
            while (Math.abs(level - at) > 3) {
                int step = level > at ? 3 : -3;
                x.buy(0, step);
                x.spring();
                at += step;
            }
            if (level != at) {
                x.buy(0, level - at);
            }
            at = level;
            x.winters(1);
        }
        return x;
    }

    private static void ways() {
        int[] levels = {3, 1, 2, 5, 0, 4, 4};
        HeadYear x = way(levels);
        for (int year = 0; year < levels.length; year++) {
            Check.due("diary(0, " + year + ", 0)", x.diary(0, year, 0), levels[year]);
            Check.due("diary(0, " + year + ", 1)", x.diary(0, year, 1), 4);
            Check.due("diary(1, " + year + ", 0)", x.diary(1, year, 0), 0);
        }
        Check.due("climb from 1 to 5, from 0 to 4", x.climb(0, 0), 4);
        Check.due("the first of several", x.climb(0, 1), 1);
        Check.due("leap", x.leap(0), 5);
        Check.due("leap of who stays", x.leap(1), 0);
        Check.due("met(0, 1, 0)", x.met(0, 1, 0), 1);
        Check.due("met(0, 1, 1)", x.met(0, 1, 1), 4);
        Check.due("met(1, 0, 1)", x.met(1, 0, 1), 4);
        x = way(0, 1, 0, 0, 7);
        Check.due("climb(0, 0)", x.climb(0, 0), 7);
        Check.due("climb(0, 1)", x.climb(0, 1), 0);
        Check.due("leap up", x.leap(0), 7);
        Check.due("met thrice", x.met(0, 1, 0), 3);
        Check.due("the latest", x.met(0, 1, 1), 3);
        x = way(7, 0, 1);
        Check.due("the first leap", x.leap(0), 7);
        x = way(0, 3, 2);
        Check.due("the leap between", x.leap(0), 3);
        x = way(5, 5, 2);
        Check.due("the last leap", x.leap(0), 3);
        x = way(4, 5, 3, 6, 2);
        Check.due("climb(0, 0)", x.climb(0, 0), 3);
        Check.due("climb(0, 1)", x.climb(0, 1), 2);
        Check.due("leap down", x.leap(0), 4);
        Check.due("never met", x.met(0, 1, 0), 0);
        Check.due("never met", x.met(0, 1, 1), HeadYear.NONE);
    }

    private static void noClimb() {
        HeadYear x = way(5, 3, 2);
        Check.due("only down: climb(0, 0)", x.climb(0, 0), 0);
        Check.due("only down: climb(0, 1)", x.climb(0, 1), 0);
        x = way(5);
        Check.due("one year: climb(0, 0)", x.climb(0, 0), 0);
        Check.due("one year: climb(0, 1)", x.climb(0, 1), 0);
        Check.due("one year: leap", x.leap(0), 0);
        x = way(5, 5, 5);
        Check.due("level: climb(0, 1)", x.climb(0, 1), 0);
    }

    private static void nothingYet() {
        HeadYear x = Check.valley("l;l;k;k");
        Check.due("no years: diary(0, 0, 0)", x.diary(0, 0, 0), HeadYear.HIDDEN);
        Check.due("no years: climb(0, 0)", x.climb(0, 0), 0);
        Check.due("no years: climb(0, 1)", x.climb(0, 1), HeadYear.NONE);
        Check.due("no years: met(0, 1, 0)", x.met(0, 1, 0), 0);
        Check.due("no years: met(0, 1, 1)", x.met(0, 1, 1), HeadYear.NONE);
        Check.due("no years: leap(0)", x.leap(0), 0);
        Check.due("no years: leanest(0)", x.leanest(0), HeadYear.NONE);
        Check.due("no years: leanest(1)", x.leanest(1), HeadYear.NONE);
    }

    private static void goneBetween() {
        HeadYear x = Check.valley("l d50 f99;l d50 f99;k p1 b0;k p1 b0");
        x.seed(bothGoneSeed());
        x.winters(3);
        Check.due("both GONE", x.count(7), 2);
        Check.due("diary(0, 2, 0)", x.diary(0, 2, 0), HeadYear.NONE);
        Check.due("diary(0, 2, 1)", x.diary(0, 2, 1), 0);
        Check.due("GONE: they do not meet", x.met(0, 1, 0), 0);
        Check.due("GONE: no climb", x.climb(0, 0), 0);
        Check.due("GONE: its first year", x.climb(0, 1), 0);
        Check.due("GONE: no leap", x.leap(0), 0);
        Check.due("leanest(0)", x.leanest(0), 0);
        Check.due("leanest(1)", x.leanest(1), 0);

        // At level 3 for a year, then GONE: neither a leap nor a climb goes to where nobody lives.
        x = Check.valley("l d0;l;l;l d50 f99;k p1 b0;k b0 a3 p12");
        Check.tell(x, 1, "y:0");
        x.law(0);
        x.buy(0, 3);
        x.winters(1);
        int seed = WinterTest.deadlySeed();
        x.seed(seed);
        x.winters(2);
        Check.due("GONE behind the first year", x.diary(0, 1, 0), HeadYear.NONE);
        Check.due("no leap to nowhere", x.leap(0), 0);
        Check.due("met once", x.met(0, 1, 0), 1);
        Check.due("in the first year", x.met(0, 1, 1), 0);
    }

    private static int bothGoneSeed() {
        int seed = 0;
        while (Check.draws(seed, 4)[1] >= 50 || Check.draws(seed, 4)[3] >= 50) {
            seed++;
        }
        return seed;
    }

    private static void leanest() {
        HeadYear x = Check.valley("l d0 f99;l d50 f99;k p12 b100 t0;k p12 b0");
        x.buy(1, 1);
        x.seed(4);
        int fewest = Integer.MAX_VALUE;
        int first = 0;
        for (int year = 0; year < 30; year++) {
            int heads = x.winters(1);
            if (heads < fewest) {
                fewest = heads;
                first = year;
            }
            Check.due("leanest(0)", x.leanest(0), first);
            Check.due("leanest(1)", x.leanest(1), fewest);
        }
        x = Check.valley("l d0;l d0;k b0");
        x.winters(5);
        Check.due("of several the first", x.leanest(0), 0);
        Check.due("HEADS of it", x.leanest(1), 4);
        Check.due("leanest(2)", x.leanest(2), HeadYear.NONE);
        Check.due("leanest(-1)", x.leanest(-1), HeadYear.NONE);
    }

    private static void refused() {
        HeadYear x = way(1, 2);
        Check.due("diary(2, 0, 0)", x.diary(2, 0, 0), HeadYear.HIDDEN);
        Check.due("diary(-1, 0, 0)", x.diary(-1, 0, 0), HeadYear.HIDDEN);
        Check.due("diary(0, 2, 0)", x.diary(0, 2, 0), HeadYear.HIDDEN);
        Check.due("diary(0, -1, 0)", x.diary(0, -1, 0), HeadYear.HIDDEN);
        Check.due("diary(0, 0, 2)", x.diary(0, 0, 2), HeadYear.HIDDEN);
        Check.due("diary(0, 0, -1)", x.diary(0, 0, -1), HeadYear.HIDDEN);
        Check.due("climb(2, 0)", x.climb(2, 0), HeadYear.HIDDEN);
        Check.due("climb(-1, 0)", x.climb(-1, 0), HeadYear.HIDDEN);
        Check.due("climb(0, 2)", x.climb(0, 2), HeadYear.HIDDEN);
        Check.due("climb(0, -1)", x.climb(0, -1), HeadYear.HIDDEN);
        Check.due("met(0, 0, 0)", x.met(0, 0, 0), HeadYear.HIDDEN);
        Check.due("met(0, 2, 0)", x.met(0, 2, 0), HeadYear.HIDDEN);
        Check.due("met(2, 0, 0)", x.met(2, 0, 0), HeadYear.HIDDEN);
        Check.due("met(-1, 0, 0)", x.met(-1, 0, 0), HeadYear.HIDDEN);
        Check.due("met(0, 1, 2)", x.met(0, 1, 2), HeadYear.HIDDEN);
        Check.due("met(0, 1, -1)", x.met(0, 1, -1), HeadYear.HIDDEN);
        Check.due("leap(2)", x.leap(2), HeadYear.HIDDEN);
        Check.due("leap(-1)", x.leap(-1), HeadYear.HIDDEN);
    }

    private static void image() {
        HeadYear x = Check.valley("l;l;k");
        Check.due("no IMAGE", x.back(), HeadYear.NONE);
        Check.due("image at first", x.image(), 0);
        x.winters(5);
        Check.due("back to the first", x.back(), 0);
        Check.due("no years", x.leanest(0), HeadYear.NONE);
        x.winters(2);
        Check.due("image of year 2", x.image(), 2);
        x.winters(3);
        Check.due("back to year 2, not the first", x.back(), 2);
        Check.due("back again", x.back(), 2);
        Check.tell(x, 0, "l;l;k");
        Check.due("no IMAGE of this valley", x.back(), HeadYear.NONE);
        Check.tell(x, 0, "l;l;");
        Check.due("image", x.image(), 0);
        x.text(0);
        Check.due("a refused text leaves the IMAGE", x.back(), 0);
    }

    private static void imageKeeps() {
        HeadYear x = Check.valley("l d20;l d10 h1;l d5;k b60 t30;k a1 b50 t50;k a2 b40 t40");
        Check.tell(x, 1, "y:b+1-d");
        x.seed(77);
        x.winters(3);
        x.hush(0, true);
        x.buy(1, 2);
        x.buy(1, -1);
        long[][] ahead = new long[3][10];
        for (int family = 0; family < 3; family++) {
            for (int what = 0; what < 10; what++) {
                ahead[family][what] = x.family(family, what);
            }
        }
        Check.due("image()", x.image(), 3);
        Check.due("buyings stay behind an image", x.count(6), 2);
        int next = x.winters(1);
        x.winters(6);
        x.hush(0, false);
        x.law(0);
        x.set(2, 3);
        x.buy(1, 1);
        x.seed(1);
        Check.due("back()", x.back(), 3);
        for (int family = 0; family < 3; family++) {
            Check.family(x, family, ahead[family]);
        }
        Check.due("count(4)", x.count(4), 3);
        Check.due("nothing can be UNDONE", x.count(6), 0);
        Check.due("nothing can be UNDONE", x.undo(), HeadYear.NONE);
        Check.due("BOUGHT as it was", x.family(1, 7), 1);
        Check.due("the diary as it was", x.diary(0, 3, 0), HeadYear.HIDDEN);
        Check.due("the law that holds stays", x.count(5), 0);
        Check.due("PRICE stays", x.buy(1, 1), 3);
        x.undo();
        x.law(HeadYear.NONE);
        Check.due("the draws as they were", x.winters(1), next);
    }

    private static void imageOfHuts() {
        HeadYear x = Check.valley("l;l;k b0;k b0;k a1 b0");
        x.buy(0, 1);
        x.winters(1);
        x.image();
        x.buy(1, 1);
        x.buy(0, -1);
        x.buy(2, -1);
        x.winters(2);
        Check.due("climb to level 1", x.diary(1, 2, 0), 1);
        x.back();
        Check.family(x, 0, 4, 1, 1);
        Check.family(x, 1, 4, 0, 1);
        Check.family(x, 2, 4, 1, 0);
        Check.due("one year", x.leanest(0), 0);
        Check.due("its level", x.diary(0, 0, 0), 1);
        Check.due("its heads", x.diary(0, 0, 1), 4);
        Check.due("no second year", x.diary(0, 1, 0), HeadYear.HIDDEN);
        Check.due("no climb beyond", x.climb(1, 0), 0);
        Check.due("no leap beyond", x.leap(0), 0);
        Check.due("met in the first year alone", x.met(0, 2, 0), 1);
        x.winters(1);
        Check.due("written anew", x.diary(0, 1, 0), 1);
    }
}
