/** Promises 6 to 8, 20 to 24 and 26 to 35: each bound of what is asked, from both sides; and the fullest VALLEY. */
final class ViewBoundsTest {
    private static final int NONE = HeadYear.NONE;
    private static final int HIDDEN = HeadYear.HIDDEN;

    public static void main(String[] args) {
        levels();
        hungryFromOneOn();
        ranksOfSeveral();
        oddsOfOneToNine();
        oddsAreCut();
        meanIsCut();
        oddsOfDebt();
        triedWithin();
        triedBeyondSixtyYears();
        reformOfSeveral();
        adviceOfSeveral();
        adviceAllTogether();
        diaryFromZero();
        climbOfSeveral();
        leapEitherWay();
        metTheLatest();
        leanestOfSeveral();
        whoIsGone();
        images();
        backIsAllAsItWas();
        anotherValleyIsLikeAFirstOne();
        counts();
        fullest();
        fiveHundredAndTwelveCalls();
        Check.finish();
    }

    private static HeadYear lawful(String valley, String law) {
        HeadYear x = Check.valley(valley);
        Check.due("the law " + law, Check.tell(x, 1, law), 0);
        x.law(0);
        return x;
    }

    /** "NoSuchElementException: no such ones": each LEVEL and each what, with 2 to 8 LEVELS. */
    private static void levels() {
        for (int levels = 2; levels <= 8; levels++) {
            HeadYear x = Check.valley("l h3 f40 d6 s1;".repeat(levels) + "k");
            long[] first = {3, 40, 6, 1, 4, 1, 0};
            for (int level = -2; level <= 9; level++) {
                for (int what = -2; what <= 8; what++) {
                    boolean is = level >= 0 && level < levels && what >= 0 && what <= 6;
                    long answer = !is ? Check.THROWS : level > 0 && what > 3 ? 0 : first[what];
                    Check.due("level(" + level + ", " + what + ")", Check.level(x, level, what), answer);
                    Check.due("hut(" + level + ", " + what + ")", x.hut(level, what), level == 0 && what == 0 ? 0 : NONE);
                }
            }
        }
    }

    /** "HUNGRY: LEVELS (bits) with a LACK; all LACKS together": as many HEADS as FOOD is no LACK. */
    private static void hungryFromOneOn() {
        for (int level = 0; level < 8; level++) {
            for (int food = 2; food <= 6; food++) {
                StringBuilder text = new StringBuilder();
                for (int l = 0; l < 8; l++) {
                    text.append("l f").append(l == level ? food : 0).append(';');
                }
                HeadYear x = Check.valley(text + "k a" + level);
                Check.due("hungry(0), FOOD " + food, x.hungry(0), food < 4 ? 1 << level : 0);
                Check.due("hungry(1), FOOD " + food, x.hungry(1), Math.max(0, 4 - food));
                Check.due("LACK, FOOD " + food, Check.level(x, level, 6), Math.max(0, 4 - food));
            }
        }
        HeadYear x = Check.valley("lh4f0;lh4f0;lf0;k p12;k p12;k p12;k p12;ka1 p12;ka1 p12;ka1 p12;ka1 p12;ka2 p12;ka2 p12");
        Check.due("the most HUNGRY", x.hungry(0), 7);
        Check.due("the most LACKS", x.hungry(1), 120);
    }

    /** "RANK: the i-th FAMILY by HEADS (of several the lower ..)": from 0, ten at most. */
    private static void ranksOfSeveral() {
        HeadYear x = Check.valley("lh4;lh4;lh4;kp3;kp5;kp3;kp5;ka1p1;ka1p12;ka1p5;ka1p3;ka2p12;ka2p1");
        int[] order = {5, 8, 1, 3, 6, 0, 2, 7, 4, 9};
        for (int i = -1; i <= 10; i++) {
            Check.due("rank(" + i + ")", x.rank(i), i < 0 || i > 9 ? NONE : order[i]);
        }
        x = Check.valley("l;l;k");
        Check.due("rank(0) of one", x.rank(0), 0);
        Check.due("rank(1) of one", x.rank(1), NONE);
    }

    /** "in n WINTERS (1 .. 9)": for each n each LEVEL, and no other. */
    private static void oddsOfOneToNine() {
        HeadYear x = lawful("l d0;".repeat(8) + "k p1 b100 t0", "y:1");
        for (int n = -1; n <= 11; n++) {
            boolean within = n >= 1 && n <= 9;
            for (int level = -2; level <= 8; level++) {
                boolean is = within && level >= -1 && level <= 7;
                long parts = level == Math.min(7, n) ? 1000000000 : 0;
                Check.due("odds(0, " + n + ", " + level + ")", x.odds(0, n, level), is ? parts : HIDDEN);
            }
            Check.due("mean(0, " + n + ")", x.mean(0, n), within ? 1000L * (n + 1) : HIDDEN);
        }
        x = lawful("l d0;".repeat(8) + "k p12 a7 b100 t100", "y:0-1");
        for (int n = 1; n <= 9; n++) {
            Check.due("down, n of " + n, x.odds(0, n, Math.max(0, 7 - n)), 1000000000);
            Check.due("20 at most, n of " + n, x.mean(0, n), 1000L * Math.min(20, 12 + 2 * n));
        }
    }

    /** "parts by BIRTH, TWIN: by 100, cut", "parts times DANGER by 100, cut": where a part is not whole. */
    private static void oddsAreCut() {
        // Nine winters of 33 of 100: each cut tells. Alone, without births: one head.
        HeadYear x = Check.valley("l d33;l;k p1 b0");
        long left = 1000000000L;
        for (int n = 1; n <= 9; n++) {
            left -= left * 33 / 100;
            Check.due("who is left in " + n, x.odds(0, n, 0), left);
            Check.due("who is GONE in " + n, x.odds(0, n, NONE), 1000000000L - left);
        }
        // Who has a child goes up and stays (a BROW): none are left below but those without.
        x = lawful("l d0;l d0 s1;k p1 b7 t0", "y:b");
        left = 1000000000L;
        for (int n = 1; n <= 9; n++) {
            left -= left * 7 / 100;
            Check.due("who stays in " + n, x.odds(0, n, 0), left);
            Check.due("who goes in " + n, x.odds(0, n, 1), 1000000000L - left);
        }
        // Twins alone go up, by 7 of 100 of 7 of 100.
        x = lawful("l d0;l d0 s1;k p1 b7 t7", "y:b=2?1;y:0");
        long up = 0;
        long[] heads = new long[21];
        heads[1] = 1000000000L;
        for (int n = 1; n <= 9; n++) {
            long[] next = new long[21];
            for (int h = 1; h <= 20; h++) {
                long births = heads[h] * 7 / 100;
                long twins = births * 7 / 100;
                up += twins;
                next[h] += heads[h] - births;
                next[Math.min(20, h + 1)] += births - twins;
            }
            heads = next;
            Check.due("twins in " + n, x.odds(0, n, 1), up);
        }
    }

    /** "the sum of parts .. times HEADS, by 10 to the 6, cut": some where by 999,999 it would be one more. */
    private static void meanIsCut() {
        int near = 0;
        for (String item : new String[] {"b1 t1", "b3 t33", "b9 t9", "b99 t1", "b67 t91"}) {
            for (int danger = 0; danger <= 50; danger += 2) {
                HeadYear x = Check.valley("l s1 d" + danger + ";l;k p12 " + item);
                for (int n = 1; n <= 9; n += 2) {
                    long sum = partsTimesHeads(12, danger, item, n);
                    Check.due("mean, " + item + ", DANGER " + danger, x.mean(0, n), sum / 1000000);
                    near += sum / 999999 > sum / 1000000 ? 1 : 0;
                }
            }
        }
        Check.due("some are just below a whole one", near > 0, true);
    }

    /** The sum of parts times HEADS of who stays at one LEVEL. */
    private static long partsTimesHeads(int heads, int danger, String item, int n) {
        int birth = Integer.parseInt(item.substring(1, item.indexOf(' ')));
        int twin = Integer.parseInt(item.substring(item.indexOf('t') + 1));
        long[] parts = new long[21];
        parts[heads] = 1000000000L;
        for (int winter = 0; winter < n; winter++) {
            long[] next = new long[21];
            for (int h = 1; h <= 20; h++) {
                long births = parts[h] * birth / 100;
                long twins = births * twin / 100;
                long[] shares = {parts[h] - births, births - twins, twins};
                for (int born = 0; born < 3; born++) {
                    long[] dead = {shares[born]};
                    for (int head = 0; head < h; head++) {
                        long[] more = new long[head + 2];
                        for (int d = 0; d <= head; d++) {
                            long die = dead[d] * danger / 100;
                            more[d] += dead[d] - die;
                            more[d + 1] += die;
                        }
                        dead = more;
                    }
                    for (int d = 0; d <= h; d++) {
                        next[Math.min(20, h - d + born)] += dead[d];
                    }
                }
            }
            parts = next;
        }
        long sum = 0;
        for (int h = 1; h <= 20; h++) {
            sum += parts[h] * h;
        }
        return sum;
    }

    /** "DEBT is 0 ahead of each WINTER, and the FAMILY is at its WANT behind it": within the LEVELS that there are. */
    private static void oddsOfDebt() {
        for (int worth = -9; worth <= 9; worth++) {
            HeadYear x = lawful("l d0;".repeat(8) + "k b0 a4", worth < 0 ? "y:o-" + -worth : "y:o+" + worth);
            int at = 4;
            for (int n = 1; n <= 9; n++) {
                at = Math.max(0, Math.min(7, at + worth));
                Check.due("n of " + n + " by " + worth, x.odds(0, n, at), 1000000000);
            }
        }
        HeadYear x = lawful("l d0;".repeat(8) + "k b0", "y:9999*9999");
        Check.due("by far up", x.odds(0, 1, 7), 1000000000);
        x = lawful("l d0;".repeat(8) + "k b0 a7", "y:0-9999*9999");
        Check.due("by far down", x.odds(0, 1, 0), 1000000000);
        // y goes on from YEARS, beyond 60.
        x = lawful("l d0;l d0;k b0", "y:y>60?1;y:0-1");
        for (int left = 55; left > 0; left -= 9) {
            x.winters(Math.min(9, left));
        }
        for (int n = 1; n <= 9; n++) {
            Check.due("year " + (55 + n), x.odds(0, n, n > 5 ? 1 : 0), 1000000000);
        }
    }

    /** "for n WINTERS (1 .. 20), seeds 0 .. k less 1 (1 .. 10)": each n and k from both sides. */
    private static void triedWithin() {
        HeadYear x = lawful("l h1 d0 f99;l h1 d0 f99;k p1 b100 t0;k a1 p1 b0", "y:b-d");
        for (int n = -1; n <= 22; n++) {
            for (int k = -1; k <= 12; k++) {
                boolean within = n >= 1 && n <= 20 && k >= 1 && k <= 10;
                String of = n + ", " + k;
                for (int law = -2; law <= 1; law++) {
                    boolean is = within && law >= -1 && law <= 0;
                    int heads = k * (Math.min(20, 1 + n) + 1);
                    Check.due("tried(" + law + ", " + of + ", 0)", x.tried(law, n, k, 0), is ? heads : HIDDEN);
                    Check.due("tried(" + law + ", " + of + ", 1)", x.tried(law, n, k, 1), is ? 0 : HIDDEN);
                    Check.due("tried(" + law + ", " + of + ", 2)", x.tried(law, n, k, 2), is ? k : HIDDEN);
                }
            }
            x = lawful("l h1 d0 f99;l h1 d0 f99;k p1 b100 t0;k a1 p1 b0", "y:b-d");
        }
        for (int n = -1; n <= 22; n++) {
            for (int k = -1; k <= 12; k++) {
                HeadYear y = lawful("l h1 d0 f99;l h1 d0 f99;k p1 b100 t0;k a1 p1 b0", "y:b-d");
                boolean within = n >= 1 && n <= 20 && k >= 1 && k <= 10;
                Check.due("reform(" + n + ", " + k + ")", y.reform(n, k), within ? NONE : HIDDEN);
                Check.due("advice(0, " + n + ", " + k + ", 0)", y.advice(0, n, k, 0), within ? 0 : HIDDEN);
                int heads = k * Math.min(20, 1 + n);
                Check.due("advice(0, " + n + ", " + k + ", 1)", y.advice(0, n, k, 1), within ? heads : HIDDEN);
            }
        }
        // Seeds from 0 on: one head, half of them die.
        x = Check.valley("l d50 f99;l;k p1 b0");
        int left = 0;
        for (int k = 1; k <= 10; k++) {
            left += Check.draws(k - 1, 2)[1] < 50 ? 0 : 1;
            Check.due("seeds 0 to " + (k - 1), x.tried(NONE, 1, k, 0), left);
            Check.due("of these GONE", x.tried(NONE, 1, k, 1), k - left);
        }
    }

    /** "(.. more YEARS than 60, too)": y goes on. */
    private static void triedBeyondSixtyYears() {
        HeadYear x = lawful("l h1 d0;l h1 d0;k b0;k a1 b0", "y:y=80&h=0?1;y:0-o");
        Check.tell(x, 1, "y:y=61&h=0?1;y:0-o");
        for (int left = 60; left > 0; left -= 9) {
            x.winters(Math.min(9, left));
        }
        for (int n = 1; n <= 20; n++) {
            Check.due("WAITING in year " + (60 + n), x.tried(0, n, 3, 2), n == 20 ? 3 : 0);
            Check.due("WAITING behind year 61", x.tried(1, n, 3, 2), n == 1 ? 3 : 0);
            Check.due("HEADS in year " + (60 + n), x.tried(0, n, 10, 0), 80);
        }
        Check.due("years stay", x.count(4), 60);
    }

    /** "of several none, then the lowest". */
    private static void reformOfSeveral() {
        HeadYear x = Check.valley("l d50 f99;l h4 d0 f99;k p12 b0;k p12 b0");
        String[] laws = {"y:0", "y:1", "y:1", "y:2"};
        int[] best = {NONE, 1, 1, 1};
        Check.due("reform of none", x.reform(5, 5), NONE);
        for (int law = 0; law < 4; law++) {
            Check.tell(x, 1, laws[law]);
            Check.due("reform of " + (law + 1), x.reform(5, 5), best[law]);
        }
        x = Check.valley("l d50 f99;l h4 d0 f99;k p12 b0");
        String[] late = {"y:0", "y:0-1", "y:0", "y:1"};
        for (int law = 0; law < 4; law++) {
            Check.tell(x, 1, late[law]);
            Check.due("the last of four", x.reform(5, 5), law < 3 ? NONE : 3);
        }
        // None goes up by births; a law that does so, too, is no more than it.
        x = Check.valley("l d50 f99;l h4 d0 f99;k p12 b100 t100");
        Check.tell(x, 1, "y:b-d");
        Check.due("none ahead of what is alike", x.reform(9, 10), NONE);
    }

    /** "of several the one nearest to 0, of two the lower". */
    private static void adviceOfSeveral() {
        for (int safe = 1; safe < 8; safe++) {
            // From LEVEL 3 of 7: the safe LEVELS are these ways off, up and down.
            for (int bits = 1; bits < 8; bits++) {
                StringBuilder text = new StringBuilder();
                for (int level = 0; level < 7; level++) {
                    int off = Math.abs(level - 3);
                    int side = level > 3 ? safe : bits;
                    text.append(off > 0 && (side >> off - 1 & 1) == 1 ? "lf99d0;" : "lf99d50;");
                }
                HeadYear x = lawful(text + "ka3b0p9", "y:0");
                int up = Integer.numberOfTrailingZeros(safe) + 1;
                int down = Integer.numberOfTrailingZeros(bits) + 1;
                Check.due("up " + up + " or down " + down, x.advice(0, 9, 10, 0), up < down ? up : -down);
            }
        }
        HeadYear x = lawful("lf99d0;".repeat(7) + "ka3b0p9", "y:0");
        Check.due("all alike: nothing", x.advice(0, 9, 10, 0), 0);
        Check.due("HEADS then", x.advice(0, 9, 10, 1), 90);
    }

    /** "(within -3 .. 3 all together ..)": behind each that is BOUGHT, up to the only safe LEVEL. */
    private static void adviceAllTogether() {
        for (int bought = -3; bought <= 3; bought++) {
            for (int safe = 0; safe < 8; safe++) {
                StringBuilder text = new StringBuilder();
                for (int level = 0; level < 8; level++) {
                    text.append(level == safe ? "lf99d0;" : "lf99d50;");
                }
                HeadYear x = lawful(text + "ka4b0p12", "y:0");
                if (bought != 0) {
                    x.buy(0, bought);
                }
                int all = safe - 4;
                boolean within = all >= -3 && all <= 3;
                int more = within ? all - bought : 0;
                Check.due("to " + all + " behind " + bought, x.advice(0, 9, 10, 0), more);
                if (within && more != 0) {
                    int heads = x.advice(0, 9, 10, 1);
                    for (int left = more; left != 0; left -= Math.max(-3, Math.min(3, left))) {
                        x.buy(0, Math.max(-3, Math.min(3, left)));
                    }
                    Check.due("nothing more then", x.advice(0, 9, 10, 0), 0);
                    Check.due("HEADS as said", x.advice(0, 9, 10, 1), heads);
                }
            }
        }
    }

    /** "YEARS of the DIARY are numbered from 0." */
    private static void diaryFromZero() {
        HeadYear x = lawful("l d0;".repeat(8) + "k b100 t0 p1;k b0", "y:b");
        for (int years = 0; years <= 12; years++) {
            for (int year = -2; year <= 13; year++) {
                boolean is = year >= 0 && year < years;
                Check.due("diary(0, " + year + ", 0)", x.diary(0, year, 0), is ? Math.min(7, year + 1) : HIDDEN);
                Check.due("diary(0, " + year + ", 1)", x.diary(0, year, 1), is ? 2 + year : HIDDEN);
            }
            Check.due("diary(0, 0, 2)", x.diary(0, 0, 2), HIDDEN);
            Check.due("diary(0, 0, -1)", x.diary(0, 0, -1), HIDDEN);
            Check.due("diary(1, 0, 0)", x.diary(1, 0, 0), years > 0 ? 0 : HIDDEN);
            Check.due("diary(2, 0, 0)", x.diary(2, 0, 0), HIDDEN);
            Check.due("diary(-1, 0, 0)", x.diary(-1, 0, 0), HIDDEN);
            x.winters(1);
            if (years == 9) {
                x = lawful("l d0;".repeat(8) + "k b100 t0 p1;k b0", "y:b");
                x.winters(9);
                x.winters(1);
            }
        }
    }

    /** FAMILY 0 is at these LEVELS behind its YEARS; FAMILY 1 stays at LEVEL 0. */
    private static HeadYear way(int... levels) {
        HeadYear x = Check.valley("l d0;".repeat(8) + "k b0;k b0");
        int at = 0;
        for (int level : levels) {
            while (Math.abs(level - at) > 3) {
                int step = level > at ? 3 : -3;
                x.buy(0, step);
                x.spring();
                at += step;
            }
            if (level != at) {
                x.buy(0, level - at);
            }
            at = level;
            x.winters(1);
        }
        return x;
    }

    private static void climb(int most, int first, int... levels) {
        HeadYear x = way(levels);
        Check.due("climb(0, 0) of " + java.util.Arrays.toString(levels), x.climb(0, 0), most);
        Check.due("climb(0, 1) of " + java.util.Arrays.toString(levels), x.climb(0, 1), first);
    }

    /** "(0 at least ..); the first YEAR from which it is (of several the first; 0, if there is none)", "NONE: no YEARS". */
    private static void climbOfSeveral() {
        climb(0, NONE);
        climb(0, 0, 3);
        climb(0, 0, 7, 6, 5, 0);
        climb(0, 0, 2, 2, 2);
        climb(1, 0, 2, 3);
        climb(1, 1, 3, 2, 3);
        climb(1, 2, 3, 1, 0, 1);
        climb(7, 0, 0, 7);
        climb(7, 2, 7, 7, 0, 7);
        climb(2, 0, 1, 3, 1, 3);
        climb(2, 0, 1, 1, 3);
        climb(3, 0, 4, 7, 3, 6);
        climb(3, 1, 4, 3, 6, 2, 5);
        climb(4, 3, 4, 3, 6, 2, 6);
        climb(5, 1, 2, 1, 3, 2, 6);
    }

    /** "the most LEVELS up or down from one YEAR to the next": not over a YEAR between. */
    private static void leapEitherWay() {
        Check.due("no years", way().leap(0), 0);
        Check.due("one year", way(5).leap(0), 0);
        Check.due("up", way(0, 7).leap(0), 7);
        Check.due("down", way(7, 0).leap(0), 7);
        Check.due("by ones", way(0, 1, 2, 3, 4, 5, 6, 7).leap(0), 1);
        Check.due("the last one", way(1, 1, 1, 2, 4).leap(0), 2);
        Check.due("the first one", way(4, 1, 1, 2, 3).leap(0), 3);
        HeadYear x = way(3, 3);
        x.buy(0, 3);
        x.spring();
        Check.due("a spring is no year", x.leap(0), 0);
        x.winters(1);
        Check.due("the next year tells", x.leap(0), 3);
    }

    /** "in how many YEARS of the DIARY two FAMILIES lived at one LEVEL; the latest", "NONE: none". */
    private static void metTheLatest() {
        int[][] ways = {{}, {1}, {0}, {0, 1}, {1, 0}, {0, 0, 0}, {1, 2, 0, 3}, {0, 7, 0, 7, 0, 7}};
        int[] times = {0, 0, 1, 1, 1, 3, 1, 3};
        int[] latest = {NONE, NONE, 0, 0, 1, 2, 2, 4};
        for (int i = 0; i < ways.length; i++) {
            HeadYear x = way(ways[i]);
            Check.due("met(0, 1, 0) of way " + i, x.met(0, 1, 0), times[i]);
            Check.due("met(0, 1, 1) of way " + i, x.met(0, 1, 1), latest[i]);
            Check.due("met(1, 0, 0) of way " + i, x.met(1, 0, 0), times[i]);
            Check.due("met(1, 0, 1) of way " + i, x.met(1, 0, 1), latest[i]);
            Check.due("alike", x.met(0, 0, 0), HIDDEN);
            Check.due("alike", x.met(1, 1, 1), HIDDEN);
            Check.due("no such one", x.met(0, 2, 0), HIDDEN);
        }
    }

    /** "the YEAR of the DIARY with the fewest HEADS of all (of several the first)", "NONE: no YEARS". */
    private static void leanestOfSeveral() {
        HeadYear x = Check.valley("l d0;l d0;k b0");
        Check.due("no years", x.leanest(0), NONE);
        Check.due("no years", x.leanest(1), NONE);
        for (int year = 0; year < 5; year++) {
            x.winters(1);
            Check.due("all alike", x.leanest(0), 0);
        }
        for (int seed = 0; seed < 40; seed++) {
            x = Check.valley("l d30 f99;l d0 f99;k p12 b50 t50;k p12 b50 t50");
            x.seed(seed);
            int fewest = Integer.MAX_VALUE;
            int first = -1;
            for (int year = 0; year < 25; year++) {
                int heads = x.winters(1);
                first = heads < fewest ? year : first;
                fewest = Math.min(fewest, heads);
                Check.due("leanest(0)", x.leanest(0), first);
                Check.due("leanest(1)", x.leanest(1), fewest);
            }
        }
    }

    /** A FAMILY that is GONE in each call that takes a FAMILY; the other lives on. */
    private static void whoIsGone() {
        int seed = 0;
        while (Check.draws(seed, 2)[1] >= 50) {
            seed++;
        }
        HeadYear x = lawful("l d0;l d50 f99;l d0;k p1 a1 b0;k a1 p12 b100 t0;k a2 p1 b0", "y:0");
        x.hush(0, true);
        x.image();
        x.seed(seed);
        x.winters(1);
        int second = x.family(1, 0);
        Check.family(x, 0, 0, NONE, NONE, 0, NONE, 0, 1, 0, 0, 0, HIDDEN);
        Check.due("buy", x.buy(0, 1), NONE);
        Check.due("hush", x.hush(0, true), false);
        Check.due("hush", x.hush(0, false), false);
        Check.due("needs", x.needs(0), NONE);
        Check.due("odds", x.odds(0, 1, NONE), HIDDEN);
        Check.due("odds", x.odds(0, 1, 1), HIDDEN);
        Check.due("mean", x.mean(0, 1), HIDDEN);
        Check.due("advice", x.advice(0, 1, 1, 0), HIDDEN);
        Check.due("advice", x.advice(0, 1, 1, 1), HIDDEN);
        Check.due("diary: LEVEL", x.diary(0, 0, 0), NONE);
        Check.due("diary: HEADS", x.diary(0, 0, 1), 0);
        Check.due("climb", x.climb(0, 0), 0);
        Check.due("climb: its first YEAR", x.climb(0, 1), 0);
        Check.due("leap", x.leap(0), 0);
        Check.due("met", x.met(0, 1, 0), 0);
        Check.due("met: the latest", x.met(1, 0, 1), NONE);
        Check.due("rank: the last", x.rank(2), 0);
        Check.due("rank: not the one ahead", x.rank(1), 2);
        Check.due("count(1)", x.count(1), 3);
        Check.due("count(7)", x.count(7), 1);
        Check.due("FAMILIES there", Check.level(x, 1, 5), 1);
        Check.due("HEADS there", Check.level(x, 1, 4), second);
        Check.due("its HUT", x.hut(1, 0), NONE);
        Check.due("HUTS full", x.full(), 0);
        Check.due("waiting", x.waiting(), 0);
        Check.due("most", x.most(1), 0);
        Check.due("tried: GONE", x.tried(NONE, 1, 1, 1) >= 1, true);
        x.buy(2, -1);
        Check.due("into the HUT that it left", x.spring(), 1);
        Check.due("who lives there", x.hut(1, 0), 2);
        x.back();
        Check.family(x, 0, 1, 1, 0, 0, 1, 0, 0, 0, 1, 0);
        Check.due("none is GONE behind BACK", x.count(7), 0);
        Check.due("HUSHED again", x.hush(0, true), false);
    }

    /** "An IMAGE (instead of the one ahead)", "NONE: no IMAGE of this VALLEY". */
    private static void images() {
        HeadYear x = Check.valley("l d0;l d0;k b0");
        Check.due("none yet", x.back(), NONE);
        for (int year = 0; year <= 9; year++) {
            Check.due("image of year " + year, x.image(), year);
            x.winters(2);
            Check.due("years", x.count(4), year + 2);
            Check.due("back", x.back(), year);
            Check.due("back again", x.back(), year);
            Check.due("years as they were", x.count(4), year);
            Check.due("diary as it was", x.diary(0, year, 0), HIDDEN);
            Check.due("its last year", x.diary(0, year - 1, 0), year > 0 ? 0 : HIDDEN);
            x.winters(1);
        }
        Check.feed(x, "l;k");
        x.text(0);
        Check.due("a refused VALLEY leaves the IMAGE", x.back(), 9);
        Check.tell(x, 1, "y:1");
        Check.due("a LAW leaves the IMAGE", x.back(), 9);
        Check.tell(x, 0, "l d0;l d0;k b0");
        Check.due("none of this VALLEY, though it is alike", x.back(), NONE);
        Check.due("an IMAGE of this VALLEY", x.image(), 0);
        x.winters(1);
        Check.due("back", x.back(), 0);
        Check.due("no years", x.leanest(0), NONE);
    }

    /** "An IMAGE keeps all of FAMILIES, YEAR, draws, DIARY; BACK: they are so again". */
    private static void backIsAllAsItWas() {
        for (int seed = 0; seed < 20; seed++) {
            HeadYear[] both = new HeadYear[2];
            for (int i = 0; i < 2; i++) {
                HeadYear x = lawful("l d20 f9;l d10 h1;l h4 d30 f5;k b60 t30;k a1 b50 t50;k a2 p1 b40 t40", "y:2*b-d");
                x.set(1, 1);
                x.seed(seed);
                x.hush(1, true);
                x.winters(3);
                x.buy(2, -2);
                x.image();
                both[i] = x;
            }
            both[0].buy(0, 1);
            both[0].hush(1, false);
            both[0].hush(2, true);
            both[0].winters(4);
            both[0].seed(seed + 1);
            both[0].spring();
            both[0].back();
            both[1].back();
            Check.due("behind BACK", Snapshot.now(both[0]), Snapshot.now(both[1]));
            Check.due("behind BACK, then", Snapshot.then(both[0]), Snapshot.then(both[1]));
        }
    }

    /** "(all that was of another one is gone but LAWS, which of them holds, FIND, LUCK, PRICE, draws)". */
    private static void anotherValleyIsLikeAFirstOne() {
        String[] texts = {"l;l;k", "l f1;l;l;k a2 p12;k", "l h1 s1;l h1;k;k a1"};
        for (String text : texts) {
            HeadYear x = lawful("lh4d9;lh4d9;l;l;l;l;l;lh4;k p12;k p12;k;k;ka7 p12;ka7;ka7;ka7;ka1;ka1 p12", "y:b-1");
            for (int family = 0; family < 10; family++) {
                x.hush(family, true);
                x.buy(family, family % 2 == 0 ? 3 : -3);
            }
            x.winters(9);
            x.image();
            x.winters(2);
            for (int family = 0; family < 10; family++) {
                x.buy(family, 1);
            }
            HeadYear first = new HeadYear();
            Check.tell(first, 1, "y:b-1");
            first.law(0);
            for (HeadYear each : new HeadYear[] {x, first}) {
                Check.tell(each, 0, text);
                each.seed(5);
                each.winters(3);
            }
            Check.due("another one: " + text, Snapshot.now(x), Snapshot.now(first));
            Check.due("another one, then: " + text, Snapshot.then(x), Snapshot.then(first));
        }
    }

    /** "0 LEVELS, 1 FAMILIES, 2 LAWS, 3 bytes of the TAPE, 4 YEARS, 5 the LAW that holds (NONE), 6 .., 7 ..; HIDDEN for others". */
    private static void counts() {
        HeadYear x = lawful("l d0;l d0;l d0;k b0;k b0", "y:0");
        Check.tell(x, 1, "y:1");
        x.law(1);
        x.winters(4);
        x.buy(0, 1);
        x.buy(1, 1);
        x.buy(1, 1);
        Check.feed(x, "l;l;k  ");
        long[] counts = {3, 2, 2, 7, 4, 1, 3, 0};
        for (int what = -3; what <= 11; what++) {
            Check.due("count(" + what + ")", x.count(what), what < 0 || what > 7 ? HIDDEN : counts[what]);
        }
        x.law(NONE);
        Check.due("no LAW holds", x.count(5), NONE);
    }

    /** Eight LEVELS, ten FAMILIES, all HUTS of four: every call, held against the Oracle. */
    private static void fullest() {
        String[] texts = {"lh1d0;lh1d0;lh1d0;lh1d0;lh1d0;lh1d0;lh1;lh3d0;k;ka1;ka2;ka3;ka4;ka5;ka6;ka7;ka7;ka7",
            "lh4d9;lh4d9;l;l;l;l;l;lh4;k;k;k;k;ka7;ka7;ka7;ka7;ka1;ka1", "l;l;l;l;l;l;l;l;ka7;ka7;ka6;ka6;ka5;ka4;ka3;ka2;k;k"};
        String[] laws = {"y:h=7?0-7;y:1", "y:b-d", "y:p/2-h", "y:[y*3-h*2]/2-o"};
        for (int i = 0; i < texts.length; i++) {
            for (int law = -1; law < 4; law++) {
                HeadYear x = new HeadYear();
                Oracle o = new Oracle();
                for (String text : laws) {
                    Check.tell(x, 1, text);
                    told(o, 1, text);
                }
                Check.due("ten families", Check.tell(x, 0, texts[i]), told(o, 0, texts[i]));
                x.law(law);
                o.law(law);
                for (int year = 0; year < 3; year++) {
                    Check.due("buy", x.buy(9, -3), o.buy(9, -3));
                    Check.due("winters(1)", x.winters(1), o.winters(1));
                    alike(x, o);
                }
            }
        }
    }

    private static int told(Oracle o, int sort, String text) {
        o.end(0);
        for (int from = 0; from < text.length(); from += 20) {
            o.feed(Check.words(text, from));
        }
        return o.text(sort);
    }

    private static void alike(HeadYear x, Oracle o) {
        for (int level = 0; level < 8; level++) {
            for (int what = 4; what < 7; what++) {
                Check.due("level(" + level + ", " + what + ")", Check.level(x, level, what), o.level(level, what));
            }
            Check.due("hut(" + level + ", 0)", x.hut(level, 0), o.hut(level, 0));
        }
        for (int family = 0; family < 10; family++) {
            Check.due("family(" + family + ", 1)", x.family(family, 1), o.family(family, 1));
            Check.due("family(" + family + ", 3)", x.family(family, 3), o.family(family, 3));
            Check.due("needs(" + family + ")", x.needs(family), o.needs(family));
            Check.due("rank(" + family + ")", x.rank(family), o.rank(family));
        }
        Check.due("waiting()", x.waiting(), o.waiting());
        Check.due("most(0)", x.most(0), o.most(0));
        Check.due("most(1)", x.most(1), o.most(1));
        Check.due("full()", x.full(), o.full());
        Check.due("hungry(0)", x.hungry(0), o.hungry(0));
        Check.due("hungry(1)", x.hungry(1), o.hungry(1));
        Check.due("odds(9, 2, 7)", x.odds(9, 2, 7), o.odds(9, 2, 7));
        Check.due("mean(9, 2)", x.mean(9, 2), o.mean(9, 2));
        Check.due("tried(0, 2, 2, 2)", x.tried(0, 2, 2, 2), o.tried(0, 2, 2, 2));
        Check.due("reform(2, 2)", x.reform(2, 2), o.reform(2, 2));
        Check.due("climb(9, 0)", x.climb(9, 0), o.climb(9, 0));
        Check.due("leap(9)", x.leap(9), o.leap(9));
        Check.due("met(8, 9, 0)", x.met(8, 9, 0), o.met(8, 9, 0));
        Check.due("leanest(1)", x.leanest(1), o.leanest(1));
        Check.due("advice(9, 2, 2, 0)", x.advice(9, 2, 2, 0), o.advice(9, 2, 2, 0));
    }

    /** "An object is used for at most 512 calls": the last one answers as due, too. */
    private static void fiveHundredAndTwelveCalls() {
        HeadYear x = Check.valley("l;l;k");
        // Four calls were needed for the valley: end, count, feed, text.
        for (int call = 5; call <= 510; call++) {
            Check.due("call " + call, x.buy(0, call % 2 == 0 ? 1 : -1), call < 45 ? 10 : NONE);
        }
        Check.due("call 511", x.undo(), 0);
        Check.due("call 512", x.count(6), 39);
    }
}
