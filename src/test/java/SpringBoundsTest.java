/** Promises 10, 13 to 19, 25: each bound of WANT, of rings, of LUCK, of what is BOUGHT, of MOST and NEEDS. */
final class SpringBoundsTest {
    private static final int NONE = HeadYear.NONE;

    public static void main(String[] args) {
        wantWithinTheLevels();
        wantAtABrow();
        ringsOfTwoToEight();
        ringOfTen();
        fromTheNextThatWants();
        luckOfOneToFour();
        luckIsZeroOrOne();
        priceWithinNinetyNine();
        boughtWithinThree();
        threeAllTogether();
        fortyBuyings();
        fortySinceTheLatestSpring();
        undoneOneByOne();
        noBuyingBehindBack();
        hushedOrNot();
        mostWithRoomElsewhere();
        mostOfSeveral();
        needsOfUpToSix();
        fullOrNot();
        Check.finish();
    }

    private static HeadYear lawful(String valley, String law) {
        HeadYear x = Check.valley(valley);
        Check.due("the law " + law, Check.tell(x, 1, law), 0);
        x.law(0);
        return x;
    }

    /** "WANT .. within the LEVELS that there are": by any WORTH, from any LEVEL, with 2 to 8 of them; all HUTS full. */
    private static void wantWithinTheLevels() {
        for (int levels = 2; levels <= 8; levels++) {
            StringBuilder text = new StringBuilder("l h1 d0;".repeat(levels));
            for (int level = 0; level < levels; level++) {
                text.append(level > 0 ? ";" : "").append("k b0 a").append(level);
            }
            for (int worth = -9; worth <= 9; worth++) {
                HeadYear x = lawful(text.toString(), worth < 0 ? "y:0-" + -worth : "y:" + worth);
                Check.due("all stay", x.winters(1), 4 * levels);
                for (int level = 0; level < levels; level++) {
                    int want = Math.max(0, Math.min(levels - 1, level + worth));
                    Check.due("WANT of level " + level + " by " + worth, x.family(level, 4), want);
                    Check.due("DEBT becomes WANT less LEVEL", x.family(level, 3), want - level);
                    Check.due("LEVEL", x.family(level, 1), level);
                    Check.due("WAITING", x.waiting() >> level & 1, want == level ? 0 : 1);
                }
            }
        }
    }

    /** "at a BROW its LEVEL": nor does its DEBT stay; nor is it WAITING, or in a RING. */
    private static void wantAtABrow() {
        for (int worth = -9; worth <= 9; worth++) {
            HeadYear x = lawful("l d0;l d0 s1;l d0;k b0 a1", worth < 0 ? "y:0-" + -worth : "y:" + worth);
            x.buy(0, worth < 0 ? -3 : 3);
            x.winters(2);
            Check.family(x, 0, 4, 1, 0, 0, 1, 0, 0, 0, 0, 30);
            Check.due("nobody waits", x.waiting(), 0);
        }
        // One goes to a BROW, and stays there.
        HeadYear x = lawful("l d0;l d0 s1;k b0", "y:h=0?1;y:0-1");
        x.winters(1);
        Check.due("it goes to the BROW", x.family(0, 1), 1);
        x.winters(3);
        Check.due("it stays at the BROW", x.family(0, 1), 1);
        // Who is at a BROW makes no RING with who wants to be there.
        x = lawful("l h1 d0;l h1 d0 s1;k b0;k b0 a1", "y:h=0?1;y:0-1");
        x.winters(1);
        Check.due("no RING", x.family(0, 1), 0);
        Check.due("one waits", x.waiting(), 1);
        Check.due("it can't", x.needs(0), NONE);
    }

    /** "if one comes to a FAMILY twice .. (the RING)": of two up to eight LEVELS. */
    private static void ringsOfTwoToEight() {
        for (int size = 2; size <= 8; size++) {
            StringBuilder text = new StringBuilder("l h1 d0;".repeat(8));
            for (int level = 0; level < 8; level++) {
                text.append(level > 0 ? ";" : "").append("k b0 a").append(level);
            }
            String law = "y:h=" + (size - 1) + "?0-" + (size - 1) + ";y:h<" + size + "?1";
            HeadYear x = lawful(text.toString(), law);
            x.winters(1);
            for (int family = 0; family < 8; family++) {
                int to = family < size ? (family + 1) % size : family;
                Check.due("RING of " + size + ": family " + family, x.family(family, 1), to);
                Check.due("its DEBT", x.family(family, 3), 0);
                Check.due("who lives there", x.hut(to, 0), family);
            }
        }
    }

    /** Five rings of two, of all ten FAMILIES: a SPRING alone tells how many moved. */
    private static void ringOfTen() {
        HeadYear x = Check.valley("lh4;lh4;lh1;lh1;k;k;k;k;ka1;ka1;ka1;ka1;ka2;ka3");
        for (int family = 0; family < 10; family++) {
            x.buy(family, family < 4 || family == 8 ? 1 : -1);
        }
        Check.due("ten moved", x.spring(), 10);
        Check.due("nobody waits", x.waiting(), 0);
        for (int family = 0; family < 10; family++) {
            int at = family < 4 ? 1 : family < 8 ? 0 : family == 8 ? 3 : 2;
            Check.due("family " + family, x.family(family, 1), at);
            Check.due("its hut", x.family(family, 2), family < 8 ? family % 4 : 0);
        }
        Check.due("nobody moves again", x.spring(), 0);
    }

    /** "if there is none at some LEVEL, the next FAMILY that WANTS is gone on from". */
    private static void fromTheNextThatWants() {
        HeadYear x = Check.valley("lh1;lh1;lh1;lh1;k;ka1;ka2;ka3");
        x.buy(0, 1);
        x.buy(2, 1);
        x.buy(3, -1);
        Check.due("0 leads to who stays, 2 and 3 change", x.spring(), 2);
        Check.due("0 waits", x.waiting(), 1);
        x = Check.valley("lh1;lh1;lh1;lh1;k;ka1;ka2;ka3");
        x.buy(2, 1);
        x.buy(3, -3);
        x.buy(0, 1);
        Check.due("all lead to who stays", x.spring(), 0);
        Check.due("all wait", x.waiting(), 13);
    }

    /** "with LUCK by a draw of how many are empty, by numbers; else into the lowest". */
    private static void luckOfOneToFour() {
        for (int empty = 1; empty <= 4; empty++) {
            int seen = 0;
            for (int seed = 0; seed < 60; seed++) {
                HeadYear x = Check.valley("l;l h4" + ";k a1".repeat(4 - empty) + ";k");
                int family = 4 - empty;
                x.buy(family, 1);
                x.set(1, seed % 2);
                x.seed(seed);
                Check.due("one moved", x.spring(), 1);
                long draw = (seed * 6364136223846793005L + 1442695040888963407L) >>> 33;
                int hut = seed % 2 == 1 ? (int) (draw % empty) : 0;
                Check.due("hut of " + empty + " empty by seed " + seed, x.family(family, 2), 4 - empty + hut);
                seen |= 1 << hut;
            }
            Check.due("each of " + empty + " is seen", seen, (1 << empty) - 1);
        }
    }

    /** "LUCK (1; 0, 1; 0 at first)". */
    private static void luckIsZeroOrOne() {
        for (int v = -1; v <= 2; v++) {
            HeadYear x = Check.valley("l;l h4;k");
            Check.due("set(1, " + v + ")", x.set(1, v), v == 0 || v == 1);
            x.buy(0, 1);
            x.seed(2);
            x.spring();
            long draw = (2 * 6364136223846793005L + 1442695040888963407L) >>> 33;
            Check.due("by LUCK of " + v, x.family(0, 2), v == 1 ? draw % 4 : 0);
        }
    }

    /** "PRICE (0 .. 99; 10) for each LEVEL". */
    private static void priceWithinNinetyNine() {
        for (int price = -1; price <= 100; price++) {
            HeadYear x = Check.valley("l;l;k");
            boolean within = price >= 0 && price <= 99;
            Check.due("set(2, " + price + ")", x.set(2, price), within);
            int is = within ? price : 10;
            Check.due("three up", x.buy(0, 3), 3 * is);
            Check.due("three down", x.buy(0, -3), 3 * is);
            Check.due("two down", x.buy(0, -2), 2 * is);
            Check.due("one up", x.buy(0, 1), is);
            Check.due("spent in all", x.family(0, 9), 9 * is);
        }
    }

    /** "LEVELS are BOUGHT (-3 .. 3, not 0)". */
    private static void boughtWithinThree() {
        for (int levels = -7; levels <= 7; levels++) {
            HeadYear x = Check.valley("l;l;k");
            boolean within = levels != 0 && levels >= -3 && levels <= 3;
            Check.due("buy(0, " + levels + ")", x.buy(0, levels), within ? 10 * Math.abs(levels) : NONE);
            Check.due("BOUGHT", x.family(0, 7), within ? levels : 0);
            Check.due("spent", x.family(0, 9), within ? 10 * Math.abs(levels) : 0);
            Check.due("buyings", x.count(6), within ? 1 : 0);
        }
    }

    /** "-3 .. 3 LEVELS all together", "more than 3 all together either way": from each sum by each buying. */
    private static void threeAllTogether() {
        for (int ahead = -3; ahead <= 3; ahead++) {
            for (int more = -3; more <= 3; more++) {
                HeadYear x = Check.valley("l;l;k;k");
                if (ahead != 0) {
                    x.buy(0, ahead);
                }
                boolean good = more != 0 && Math.abs(ahead + more) <= 3;
                String what = "buy(0, " + more + ") behind " + ahead;
                Check.due(what, x.buy(0, more), good ? 10 * Math.abs(more) : NONE);
                Check.due(what + ": all together", x.family(0, 7), good ? ahead + more : ahead);
                Check.due("another family has its own", x.buy(1, 3), 30);
            }
        }
        HeadYear x = Check.valley("l h1;l h1;k;k a1");
        x.buy(0, 3);
        x.spring();
        Check.due("none BOUGHT behind a SPRING", x.family(0, 7), 0);
        Check.due("three more then", x.buy(0, 3), 30);
        x.undo();
        Check.due("three down behind one UNDONE", x.buy(0, -3), 30);
    }

    private static HeadYear bought(int n) {
        HeadYear x = Check.valley("l;l;k;k");
        for (int i = 0; i < n; i++) {
            Check.due("buying " + i, x.buy(i % 4 / 2, i % 2 == 0 ? 1 : -1), 10);
        }
        Check.due("buyings", x.count(6), n);
        return x;
    }

    /** "The latest buyings (40 at most)", "NONE: .. 40 buyings". */
    private static void fortyBuyings() {
        for (int n = 38; n <= 40; n++) {
            HeadYear x = bought(n);
            Check.due("one more behind " + n, x.buy(0, 1), n < 40 ? 10 : NONE);
            Check.due("buyings then", x.count(6), Math.min(40, n + 1));
            Check.due("spent by both", x.family(0, 9) + x.family(1, 9), 10 * Math.min(40, n + 1));
        }
        HeadYear x = bought(40);
        for (int i = 39; i >= 0; i--) {
            Check.due("undo", x.undo(), i % 4 / 2);
            Check.due("buyings left", x.count(6), i);
        }
        Check.due("a 41st undo", x.undo(), NONE);
        x = bought(40);
        x.undo();
        x.undo();
        Check.due("the 39th anew", x.buy(1, 1), 10);
        Check.due("the 40th anew", x.buy(1, 1), 10);
        Check.due("no 41st", x.buy(1, 1), NONE);
    }

    /** "since the latest SPRING": 40 more behind a SPRING, a WINTER, BACK. */
    private static void fortySinceTheLatestSpring() {
        for (int how = 0; how < 3; how++) {
            HeadYear x = Check.valley("l d0;l d0;k b0");
            x.image();
            for (int i = 0; i < 40; i++) {
                x.buy(0, i % 2 == 0 ? 1 : -1);
            }
            Check.due("no 41st", x.buy(0, 1), NONE);
            if (how == 0) {
                x.spring();
            } else if (how == 1) {
                x.winters(1);
            } else {
                x.back();
            }
            Check.due("none that can be UNDONE", x.count(6), 0);
            Check.due("none UNDONE", x.undo(), NONE);
            for (int i = 0; i < 40; i++) {
                Check.due("one of 40 more", x.buy(0, i % 2 == 0 ? 1 : -1), 10);
            }
            Check.due("no 41st more", x.buy(0, 1), NONE);
        }
    }

    /** "can be UNDONE, one by one". */
    private static void undoneOneByOne() {
        HeadYear x = Check.valley("l;l;k;k;k a1");
        int[][] buyings = {{0, 3}, {1, -2}, {0, -3}, {2, 1}, {0, -3}, {2, -2}, {1, -1}};
        int[][] bought = new int[buyings.length + 1][3];
        int[][] spent = new int[buyings.length + 1][3];
        for (int i = 0; i < buyings.length; i++) {
            x.set(2, 11 * i);
            x.buy(buyings[i][0], buyings[i][1]);
            for (int family = 0; family < 3; family++) {
                bought[i + 1][family] = x.family(family, 7);
                spent[i + 1][family] = x.family(family, 9);
            }
        }
        x.set(2, 99);
        for (int i = buyings.length; i > 0; i--) {
            for (int family = 0; family < 3; family++) {
                Check.due("BOUGHT by " + i, x.family(family, 7), bought[i][family]);
                Check.due("spent for " + i, x.family(family, 9), spent[i][family]);
            }
            Check.due("count(6)", x.count(6), i);
            Check.due("the latest", x.undo(), buyings[i - 1][0]);
        }
        for (int family = 0; family < 3; family++) {
            Check.due("nothing BOUGHT", x.family(family, 7), 0);
            Check.due("nothing spent", x.family(family, 9), 0);
        }
        Check.due("none left", x.undo(), NONE);
        Check.due("refused: none left", x.count(6), 0);
    }

    /** "BACK .. (no buying can be UNDONE then)", yet BOUGHT as it was: no more than 3 all together. */
    private static void noBuyingBehindBack() {
        HeadYear x = Check.valley("l;l;k");
        x.buy(0, 2);
        x.image();
        Check.due("an IMAGE leaves buyings", x.count(6), 1);
        x.buy(0, -3);
        x.back();
        Check.due("BOUGHT as it was", x.family(0, 7), 2);
        Check.due("spent as it was", x.family(0, 9), 20);
        Check.due("none UNDONE", x.undo(), NONE);
        Check.due("BOUGHT still", x.family(0, 7), 2);
        Check.due("two more are too many", x.buy(0, 2), NONE);
        Check.due("one more", x.buy(0, 1), 10);
        Check.due("this one is UNDONE", x.undo(), 0);
        Check.due("BOUGHT as it was", x.family(0, 7), 2);
        Check.due("none UNDONE", x.undo(), NONE);
        x.spring();
        Check.due("up by what was BOUGHT", x.family(0, 1), 1);
    }

    /** "False: .. it is so." */
    private static void hushedOrNot() {
        HeadYear x = Check.valley("l;l;k;k");
        for (int family = 0; family < 2; family++) {
            Check.due("not HUSHED at first", x.hush(family, false), false);
            Check.due("HUSHED", x.hush(family, true), true);
            Check.due("it is so", x.hush(family, true), false);
            Check.due("family(" + family + ", 8)", x.family(family, 8), 1);
        }
        Check.due("not HUSHED", x.hush(0, false), true);
        Check.due("it is so", x.hush(0, false), false);
        Check.due("family(0, 8)", x.family(0, 8), 0);
        Check.due("the other still", x.family(1, 8), 1);
        Check.due("no such one", x.hush(2, true), false);
        x.winters(1);
        Check.due("a WINTER leaves it", x.family(1, 8), 1);
    }

    /** Who could go in a valley that was pushed: DEBTS are what was BOUGHT. */
    private static HeadYear pushed(String valley, int... levels) {
        HeadYear x = Check.valley(valley);
        for (int family = 0; family < levels.length; family++) {
            if (levels[family] != 0) {
                x.buy(family, levels[family]);
            }
        }
        Check.due("nobody moves", x.spring(), 0);
        return x;
    }

    /** "(no LEVEL with more FAMILIES than HUTS)": fewer may be elsewhere, and a LEVEL may be empty. */
    private static void mostWithRoomElsewhere() {
        HeadYear x = pushed("l h1;l h2;l h1;l h4;k;k a1;k a1;k a2", 1, 1, -1);
        Check.due("most(0)", x.most(0), 2);
        Check.due("most(1)", x.most(1), 5);
        x = pushed("l h1;l h1;l h1;l h4;k;k a1;k a2;k a3", 1, 1);
        Check.due("two wait", x.waiting(), 3);
        Check.due("none of them could go", x.most(0), 0);
        Check.due("none", x.most(1), 0);
        Check.due("needs(0)", x.needs(0), NONE);
        Check.due("needs(1)", x.needs(1), NONE);
        x = pushed("l h4;l h1;l h1;l h4;k;k a1;k a2", 1, 1);
        Check.due("most(0)", x.most(0), 0);
        x = Check.valley("l;l;k;k");
        Check.due("nobody waits", x.waiting(), 0);
        Check.due("most of nobody", x.most(0), 0);
        Check.due("most of nobody", x.most(1), 0);
    }

    /** "of several the least bits": 0 or 1 could go for 3; 2, the lowest ahead of it, leads to who stays. */
    private static void mostOfSeveral() {
        HeadYear x = pushed("l h2;l h2;l h1;l;k;k;k a1;k a1;k a2", 1, 1, 1, -1);
        Check.due("waiting", x.waiting(), 15);
        Check.due("most(0)", x.most(0), 2);
        Check.due("0 and 3, not 1 and 3", x.most(1), 9);
    }

    /** "NEEDS .. the fewest others": up to six, round to its own LEVEL; 3 leads from its LEVEL to who stays. */
    private static void needsOfUpToSix() {
        HeadYear x = lawful("lh1d0;lh1d0;lh1d0;lh2d0;lh1d0;lh1d0;lh1d0;lh1d0;"
                + "kb0;ka1b0;ka2b0;ka3b0;ka3b0;ka4b0;ka5b0;ka6b0;ka7b0", "y:h=6?0-6;y:h<6?1");
        x.buy(3, 3);
        x.winters(1);
        Check.due("waiting", x.waiting(), 255);
        int[] needs = {6, 6, 6, NONE, 6, 6, 6, 6, NONE};
        for (int family = 0; family < needs.length; family++) {
            Check.due("LEVEL of " + family, x.family(family, 1), family < 4 ? family : family - 1);
            Check.due("needs(" + family + ")", x.needs(family), needs[family]);
        }
        Check.due("most(0)", x.most(0), 7);
        Check.due("most(1)", x.most(1), 255 - 8);
        Check.due("full()", x.full(), 255);
        Check.due("needs(9)", x.needs(9), NONE);
    }

    /** "FULL: LEVELS (bits) without an empty HUT": one HUT empty, or none. */
    private static void fullOrNot() {
        for (int huts = 1; huts <= 4; huts++) {
            for (int there = 0; there <= huts; there++) {
                for (int level = 0; level < 8; level++) {
                    StringBuilder text = new StringBuilder();
                    for (int l = 0; l < 8; l++) {
                        text.append(l == level ? "l h" + huts + ";" : "l;");
                    }
                    text.append(level == 0 ? "k a1" : "k").append((";k a" + level).repeat(there));
                    HeadYear x = Check.valley(text.toString());
                    Check.due(there + " in " + huts + " huts", x.full(), there == huts ? 1 << level : 0);
                    Check.due("FAMILIES there", Check.level(x, level, 5), there);
                }
            }
        }
    }
}
