/** Promises 10 to 16 and the Terms' second part: each bound of a WINTER, a SPRING and what is BOUGHT, from both sides. */
final class YearBoundsTest {
    private static final int NONE = HeadYear.NONE;

    public static void main(String[] args) {
        belowBirth();
        belowTwin();
        belowDanger();
        dangerAndLackTogether();
        lackIsZeroAtLeast();
        asManyHeadsAsAtFirst();
        belowFind();
        foundOnlyWhereBorn();
        twentyAtMost();
        goneWithNone();
        debtWithinNine();
        debtAsItWas();
        theFirstYearIsOne();
        seedsGoRound();
        sixtyYears();
        oneToNineWinters();
        Check.finish();
    }

    /** The first seed by which the draw of that place is this one. */
    private static long seedOf(int place, int draw) {
        for (long seed = 0; seed < 100000; seed++) {
            if (Check.draws(seed, place + 1)[place] == draw) {
                return seed;
            }
        }
        throw new IllegalStateException("no such seed");
    }

    private static HeadYear winter(String valley, long seed) {
        HeadYear x = Check.valley(valley);
        x.seed(seed);
        x.winters(1);
        return x;
    }

    /** "a draw of 100: below BIRTH: a child". */
    private static void belowBirth() {
        for (int draw = 0; draw < 100; draw++) {
            long seed = seedOf(0, draw);
            for (int birth = Math.max(0, draw - 1); birth <= Math.min(100, draw + 2); birth++) {
                HeadYear x = winter("l d0;l d0;k t0 b" + birth, seed);
                Check.due("BIRTH " + birth + " by a draw of " + draw, x.family(0, 5), draw < birth ? 1 : 0);
            }
            Check.due("BIRTH 0", winter("l d0;l d0;k t0 b0", seed).family(0, 5), 0);
            Check.due("BIRTH 100", winter("l d0;l d0;k t0 b100", seed).family(0, 5), 1);
        }
    }

    /** "another draw of 100: below TWIN: BORN 2". */
    private static void belowTwin() {
        for (int draw = 0; draw < 100; draw++) {
            long seed = seedOf(1, draw);
            for (int twin = Math.max(0, draw - 1); twin <= Math.min(100, draw + 2); twin++) {
                HeadYear x = winter("l d0;l d0;k b100 t" + twin, seed);
                Check.due("TWIN " + twin + " by a draw of " + draw, x.family(0, 5), draw < twin ? 2 : 1);
            }
            Check.due("TWIN 0", winter("l d0;l d0;k b100 t0", seed).family(0, 5), 1);
            Check.due("TWIN 100", winter("l d0;l d0;k b100 t100", seed).family(0, 5), 2);
        }
    }

    /** "for each HEAD .. a draw of 100: below DANGER ..: it dies". */
    private static void belowDanger() {
        for (int draw = 0; draw < 52; draw++) {
            long seed = seedOf(1, draw);
            for (int danger = Math.max(0, draw - 1); danger <= Math.min(50, draw + 2); danger++) {
                HeadYear x = winter("l f99 d" + danger + ";l;k p1 b0", seed);
                Check.due("DANGER " + danger + " by a draw of " + draw, x.family(0, 6), draw < danger ? 1 : 0);
                Check.due("HEADS", x.family(0, 0), draw < danger ? 0 : 1);
            }
        }
    }

    /** "below DANGER and LACK of its LEVEL together": up to 50 and 48 of four families of twelve. */
    private static void dangerAndLackTogether() {
        for (int danger = 0; danger <= 50; danger += 5) {
            for (int food = 0; food <= 48; food += 6) {
                int chance = danger + 48 - food;
                for (int draw = Math.max(0, chance - 1); draw <= Math.min(99, chance); draw++) {
                    long seed = seedOf(1, draw);
                    String level = "l h4 f" + food + " d" + danger;
                    HeadYear x = winter(level + ";l;k p12 b0;k p12 b0;k p12 b0;k p12 b0", seed);
                    Check.due("DEAD by a chance of " + chance, x.family(0, 6), dead(seed, 1, 12, chance));
                    Check.due("of the last, too", x.family(3, 6), dead(seed, 40, 12, chance));
                }
            }
        }
    }

    private static int dead(long seed, int from, int heads, int chance) {
        int[] draws = Check.draws(seed, from + heads);
        int dead = 0;
        for (int head = 0; head < heads; head++) {
            dead += draws[from + head] < chance ? 1 : 0;
        }
        return dead;
    }

    /** "LACK of a LEVEL: HEADS there together less its FOOD, 0 at least": no less danger by more food. */
    private static void lackIsZeroAtLeast() {
        long seed = seedOf(1, 9);
        for (int food = 0; food <= 6; food++) {
            HeadYear x = Check.valley("l d10 f" + food + ";l f0;k p4 b0");
            Check.due("LACK by FOOD of " + food, Check.level(x, 0, 6), Math.max(0, 4 - food));
            Check.due("all LACKS", x.hungry(1), Math.max(0, 4 - food));
            Check.due("HUNGRY", x.hungry(0), food < 4 ? 1 : 0);
            x.seed(seed);
            x.winters(1);
            int chance = 10 + Math.max(0, 4 - food);
            Check.due("DEAD by FOOD of " + food, x.family(0, 6), dead(seed, 1, 4, chance));
        }
        HeadYear x = winter("l d10 f99;l;k p1 b0", seed);
        Check.due("a draw of 9 below 10, with food for all", x.family(0, 6), 1);
        x = winter("l d9 f99;l;k p1 b0", seed);
        Check.due("a draw of 9 not below 9", x.family(0, 6), 0);
    }

    /** "for each HEAD (as many as at first)": who is born now does not die now. */
    private static void asManyHeadsAsAtFirst() {
        for (int seed = 0; seed < 50; seed++) {
            HeadYear x = winter("l f99 d50;l d0;k p2 b100 t100;k a1 p1 b50 t0", seed);
            Check.due("two draws for two heads", x.family(0, 6), dead(seed, 2, 2, 50));
            Check.due("the next family's draw is the fifth", x.family(1, 5), Check.draws(seed, 5)[4] < 50 ? 1 : 0);
        }
    }

    /** "FIND (0 .. 100; 50)", "a draw of 100: below FIND: twice as many, else 0": seen by the LEVEL, up from 1. */
    private static void belowFind() {
        for (int draw = 0; draw < 100; draw++) {
            long seed = seedOf(3, draw);
            for (int find = -1; find <= 101; find++) {
                boolean near = find < 1 || find > 99 || Math.abs(find - draw) < 2;
                if (near) {
                    HeadYear x = Check.valley("l d0;l d0;l d0;l d0;k a1 p1 b100 t0");
                    Check.due("set(0, " + find + ")", x.set(0, find), find >= 0 && find <= 100);
                    int is = find < 0 || find > 100 ? 50 : find;
                    x.hush(0, true);
                    x.seed(seed);
                    x.winters(1);
                    Check.due("FIND " + is + " by a draw of " + draw, x.family(0, 1), draw < is ? 3 : 1);
                    Check.due("BORN is not COUNTED", x.family(0, 5), 1);
                }
            }
        }
    }

    /** "of a HUSHED FAMILY with BORN above 0 a draw": none with BORN 0, none of who is not HUSHED. */
    private static void foundOnlyWhereBorn() {
        for (int seed = 0; seed < 50; seed++) {
            int[] draws = Check.draws(seed, 8);
            HeadYear x = Check.valley("l d0;l d0;k p1 b0;k p1 b50 t0");
            x.hush(0, true);
            x.seed(seed);
            x.winters(1);
            Check.due("BORN 0: no draw", x.family(1, 5), draws[2] < 50 ? 1 : 0);
            x = Check.valley("l d0;l d0;k p1 b100 t0;k p1 b50 t0");
            x.hush(0, true);
            x.seed(seed);
            x.winters(1);
            Check.due("BORN 1: a draw", x.family(1, 5), draws[4] < 50 ? 1 : 0);
            x = Check.valley("l d0;l d0;k p1 b100 t0;k p1 b50 t0");
            x.hush(1, true);
            x.seed(seed);
            x.winters(1);
            Check.due("not HUSHED: no draw", x.family(1, 5), draws[3] < 50 ? 1 : 0);
        }
    }

    /** "HEADS are then HEADS less DEAD, and BORN, 20 at most": the letter p, too. */
    private static void twentyAtMost() {
        int[] twins = {11, 13, 15, 17, 19, 20, 20};
        HeadYear x = Check.valley("l d0 f99;l d0;k p11 b100 t100");
        Check.tell(x, 1, "y:p>20?1;y:0");
        x.law(0);
        for (int year = 1; year < twins.length; year++) {
            Check.due("HEADS of twins", x.winters(1), twins[year]);
            Check.due("HEADS in the diary", x.diary(0, year - 1, 1), twins[year]);
        }
        Check.due("BORN are all", x.family(0, 5), 12);
        Check.due("p is 20 at most", x.family(0, 1), 0);
        x = Check.valley("l d0 f99;l d0;k p12 b100 t0");
        Check.due("20 by ones", x.winters(8), 20);
        Check.due("no 21st", x.winters(1), 20);

        int seen = 0;
        for (int seed = 0; seed < 400; seed++) {
            x = Check.valley("l d0 f99;l d10 f99;k p12 b100 t100");
            Check.tell(x, 1, "y:0");
            x.law(0);
            Check.due("20 heads", x.winters(4), 20);
            x.buy(0, 1);
            x.spring();
            x.seed(seed);
            int dead = dead(seed, 2, 20, 10);
            Check.due("20 less " + dead + ", and 2", x.winters(1), Math.min(20, 22 - dead));
            Check.due("DEAD", x.family(0, 6), dead);
            seen |= 1 << dead;
        }
        Check.due("with 0, 1, 2 and 3 DEAD", seen & 15, 15);
    }

    /** "With none it is GONE": not where one is born as the last dies. */
    private static void goneWithNone() {
        long dies = seedOf(2, 10);
        HeadYear x = winter("l f99 d50;l;k p1 b100 t0", dies);
        Check.due("one died", x.family(0, 6), 1);
        Check.due("the child stays", x.family(0, 0), 1);
        Check.due("not GONE", x.count(7), 0);
        Check.due("it lives", x.family(0, 1), 0);
        x = winter("l f99 d50;l;k p1 b0", seedOf(1, 10));
        Check.family(x, 0, 0, NONE, NONE, 0, NONE, 0, 1, 0, 0, 0);
        Check.due("GONE", x.count(7), 1);
        x = winter("l f99 d50;l;k p1 b0", seedOf(1, 50));
        Check.due("one head is not none", x.family(0, 1), 0);
        Check.due("no FAMILY GONE", x.count(7), 0);
    }

    /** "held within -9 .. 9": seen by what is BOUGHT the other way, among eight levels. */
    private static void debtWithinNine() {
        String levels = "l d0;".repeat(8);
        for (int worth = 1; worth <= 14; worth++) {
            int held = Math.min(9, worth);
            for (int bought = 0; bought <= 3; bought++) {
                HeadYear x = Check.valley(levels + "k b0;k a7 b0");
                Check.tell(x, 1, "y:h=0?" + worth + ";y:0-" + worth);
                x.law(0);
                if (bought > 0) {
                    x.buy(0, -bought);
                    x.buy(1, bought);
                }
                x.winters(1);
                Check.due("up by " + worth + " less " + bought, x.family(0, 1), Math.min(7, Math.max(0, held - bought)));
                Check.due("down", x.family(1, 1), 7 - Math.min(7, Math.max(0, held - bought)));
            }
        }
        for (String far : new String[] {"9999*9999", "1000*1000", "9999"}) {
            HeadYear x = Check.valley(levels + "k b0;k a7 b0");
            Check.tell(x, 1, "y:h=0?" + far + ";y:0-" + far);
            x.law(0);
            x.buy(0, -3);
            x.buy(1, 3);
            x.winters(1);
            Check.due("up by " + far, x.family(0, 1), 6);
            Check.due("down by " + far, x.family(1, 1), 1);
        }
    }

    /** "o DEBT as it was": who waits has it ahead of the next WINTER; both together are held, not each. */
    private static void debtAsItWas() {
        for (int more = 0; more <= 4; more++) {
            HeadYear x = Check.valley("l h1 d0;l d0;l d0;l d0;l d0;l d0;l h1 d0;l h1 d0;k b0;k a7 b0");
            Check.tell(x, 1, "y:h=0&o=0?7;y:h=0&o=7?" + more + ";y:0");
            x.law(0);
            x.winters(1);
            Check.due("DEBT of who waits", x.family(0, 3), 7);
            x.buy(0, -3);
            x.winters(1);
            int debt = Math.min(9, 7 + more) - 3;
            Check.due("7 and " + more + ", less 3", x.family(0, 1), debt == 7 ? 0 : debt);
        }
        HeadYear x = Check.valley("l h1 d0;l d0;l d0;l d0;l d0;l d0;l h1 d0;l h1 d0;k b0;k a7 b0");
        Check.tell(x, 1, "y:h=7&o=0?0-7;y:h=7&o=0-7?0-3;y:0");
        x.law(0);
        x.winters(1);
        Check.due("DEBT of who waits", x.family(1, 3), -7);
        x.buy(1, 3);
        x.winters(1);
        Check.due("-7 and -3 are -9, and 3", x.family(1, 1), 1);
    }

    /** "y the YEAR that this WINTER is (the first 1)": up to 60; anew in another VALLEY; again behind BACK. */
    private static void theFirstYearIsOne() {
        for (int year = 1; year <= 60; year++) {
            HeadYear x = Check.valley("l d0;l d0;k b0");
            Check.tell(x, 1, "y:y=" + year + "?1;y:0");
            x.law(0);
            for (int left = 60; left > 0; left -= 9) {
                x.winters(Math.min(9, left));
            }
            Check.due("up in the year told alone", x.climb(0, 0), year == 1 ? 0 : 1);
            Check.due("ahead of it", year == 1 ? 0 : x.diary(0, year - 2, 0), 0);
            Check.due("behind it", x.diary(0, year - 1, 0), 1);
        }
        HeadYear x = Check.valley("l d0;l d0;k b0");
        Check.tell(x, 1, "y:y=1?1;y:0-1");
        x.law(0);
        x.image();
        x.winters(1);
        Check.due("the first", x.family(0, 1), 1);
        x.winters(1);
        Check.due("the second", x.family(0, 1), 0);
        x.back();
        x.winters(1);
        Check.due("the first again", x.family(0, 1), 1);
        Check.tell(x, 0, "l d0;l d0;k b0");
        x.winters(1);
        Check.due("the first of another valley", x.family(0, 1), 1);
        x.spring();
        x.winters(1);
        Check.due("a spring is no year", x.family(0, 1), 0);
    }

    /** "x .. (64 bits, going round)", "shifted right by 33, without sign". */
    private static void seedsGoRound() {
        long[] seeds = {0, 1, -1, 2, Long.MAX_VALUE, Long.MIN_VALUE, Long.MAX_VALUE - 1, Long.MIN_VALUE + 1,
            1L << 32, 1L << 33, 1L << 62, -(1L << 33), 0x5555555555555555L, 0xAAAAAAAAAAAAAAAAL,
            Integer.MAX_VALUE, Integer.MIN_VALUE, 6364136223846793005L, -1442695040888963407L};
        for (long seed : seeds) {
            int[] draws = Check.draws(seed, 80);
            HeadYear x = Check.valley("l d0;l d0;k p1 b50 t50");
            Check.tell(x, 1, "y:0");
            x.law(0);
            Check.due("seed " + seed, x.seed(seed), true);
            int at = 0;
            int heads = 1;
            for (int year = 1; year <= 9; year++) {
                boolean child = draws[at++] < 50;
                int born = child ? (draws[at++] < 50 ? 2 : 1) : 0;
                at += heads;
                heads += born;
                Check.due("HEADS by seed " + seed + ", year " + year, x.winters(1), heads);
            }
        }
        // Draws of 100 are of 31 bits without a sign: none is ever below 0, none is 100.
        for (int seed = 0; seed < 300; seed++) {
            HeadYear x = winter("l d0;l d0;k b100 t0;k b0", seed * 0x9E3779B97F4A7C15L);
            Check.due("by any draw: BIRTH of 100", x.family(0, 5), 1);
            Check.due("by any draw: BIRTH of 0", x.family(1, 5), 0);
        }
    }

    private static HeadYear aged(int years) {
        HeadYear x = Check.valley("l d0;l d0;k b0");
        for (int left = years; left > 0; left -= 9) {
            x.winters(Math.min(9, left));
        }
        Check.due("years", x.count(4), years);
        return x;
    }

    /** "is a YEAR (60 at most)", "NONE: .. too many YEARS". */
    private static void sixtyYears() {
        for (int years = 49; years <= 60; years++) {
            for (int n = 1; n <= 9; n++) {
                HeadYear x = aged(years);
                boolean fits = years + n <= 60;
                Check.due(n + " behind " + years, x.winters(n), fits ? 4 : NONE);
                Check.due("years then", x.count(4), fits ? years + n : years);
                Check.due("the last of the diary", x.diary(0, x.count(4) - 1, 1), 4);
                Check.due("none behind it", x.diary(0, x.count(4), 1), HeadYear.HIDDEN);
            }
        }
        HeadYear x = aged(60);
        x.buy(0, 1);
        Check.due("a spring is no year", x.spring(), 1);
        Check.due("image of the last year", x.image(), 60);
        Check.due("back", x.back(), 60);
        Check.tell(x, 0, "l d0;l d0;k b0");
        Check.due("another valley has 60 of its own", x.winters(9), 4);
        Check.due("nine", x.count(4), 9);
        x = aged(52);
        x.image();
        x.winters(8);
        Check.due("60 years", x.winters(1), NONE);
        x.back();
        Check.due("eight again", x.winters(8), 4);
        Check.due("60 years", x.winters(1), NONE);
    }

    /** "WINTERS (1 .. 9), each with its SPRING". */
    private static void oneToNineWinters() {
        for (int n = -2; n <= 12; n++) {
            HeadYear x = Check.valley("l d0;l d0;k b0");
            boolean within = n >= 1 && n <= 9;
            Check.due("winters(" + n + ")", x.winters(n), within ? 4 : NONE);
            Check.due("years", x.count(4), within ? n : 0);
        }
        HeadYear x = Check.valley("l d0;".repeat(8) + "k b0 a7");
        Check.tell(x, 1, "y:0-1");
        x.law(0);
        x.winters(5);
        Check.due("a spring behind each", x.family(0, 1), 2);
    }
}
