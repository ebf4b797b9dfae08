/** Promises 5 to 8: text, level, family, hut; and 25 to 27, 35: full, hungry, rank, count. */
final class ValleyTest {
    public static void main(String[] args) {
        usual();
        told();
        refused();
        anotherValley();
        fewestAndMost();
        views();
        Check.finish();
    }

    private static void usual() {
        HeadYear x = Check.valley("l;l;k");
        long[] level = {2, 20, 5, 0, 4, 1, 0};
        for (int what = 0; what < level.length; what++) {
            Check.due("usual level(0, " + what + ")", Check.level(x, 0, what), level[what]);
        }
        Check.family(x, 0, 4, 0, 0, 0, 0, 0, 0, 0, 0, 0, HeadYear.HIDDEN);
        Check.due("usual BIRTH 30, TWIN 5", x.odds(0, 1, 0), oddsToStayAtZero());
        Check.due("PRICE is 10 at first", x.buy(0, 1), 10);
    }

    /** Of a usual FAMILY: at LEVEL 0 all are but who has more BORN than DEAD. */
    private static long oddsToStayAtZero() {
        long up = 0;
        long[] born = {700000000L, 285000000L, 15000000L};
        for (int b = 0; b < 3; b++) {
            long[] dead = {born[b], 0, 0, 0, 0};
            for (int head = 0; head < 4; head++) {
                for (int d = head; d >= 0; d--) {
                    long die = dead[d] * 5 / 100;
                    dead[d] -= die;
                    dead[d + 1] += die;
                }
            }
            for (int d = 0; d < b; d++) {
                up += dead[d];
            }
            if (b == 0) {
                up += dead[4];
            }
        }
        return 1000000000L - up;
    }

    private static void told() {
        HeadYear x = Check.valley("k p12 a1; l h3 f9 d50 s1; k a1 p1; l h4 f0 d0; k b0 t0");
        long[][] level = {{3, 9, 50, 1, 4, 1, 0}, {4, 0, 0, 0, 13, 2, 13}};
        for (int l = 0; l < 2; l++) {
            for (int what = 0; what < 7; what++) {
                Check.due("level(" + l + ", " + what + ")", Check.level(x, l, what), level[l][what]);
            }
        }
        Check.due("level(2, 0)", Check.level(x, 2, 0), Check.THROWS);
        Check.due("level(-1, 0)", Check.level(x, -1, 0), Check.THROWS);
        Check.due("level(0, 7)", Check.level(x, 0, 7), Check.THROWS);
        Check.due("level(0, -1)", Check.level(x, 0, -1), Check.THROWS);
        Check.due("level(MAX, MIN)", Check.level(x, Integer.MAX_VALUE, Integer.MIN_VALUE), Check.THROWS);
        Check.family(x, 0, 12, 1, 0, 0, 1, 0, 0, 0, 0, 0);
        Check.family(x, 1, 1, 1, 1, 0, 1, 0, 0, 0, 0, 0);
        Check.family(x, 2, 4, 0, 0, 0, 0, 0, 0, 0, 0, 0);
        Check.due("family(3, 0)", x.family(3, 0), HeadYear.HIDDEN);
        Check.due("family(-1, 0)", x.family(-1, 0), HeadYear.HIDDEN);
        Check.due("family(0, 10)", x.family(0, 10), HeadYear.HIDDEN);
        Check.due("family(0, -1)", x.family(0, -1), HeadYear.HIDDEN);
        Check.due("hut(1, 0)", x.hut(1, 0), 0);
        Check.due("hut(1, 1)", x.hut(1, 1), 1);
        Check.due("hut(1, 2)", x.hut(1, 2), HeadYear.NONE);
        Check.due("hut(0, 0)", x.hut(0, 0), 2);
        Check.due("hut(0, 4)", x.hut(0, 4), HeadYear.NONE);
        Check.due("hut(0, -1)", x.hut(0, -1), HeadYear.NONE);
        Check.due("hut(2, 0)", x.hut(2, 0), HeadYear.NONE);
        Check.due("hut(-1, -1)", x.hut(-1, -1), HeadYear.NONE);
    }

    private static void refused() {
        HeadYear x = new HeadYear();
        Check.feed(x, "l;k");
        Check.due("a valley with a FAULT", x.text(0), HeadYear.NONE);
        Check.due("refused: the TAPE stays", x.count(3), 3);
        Check.due("refused: no valley", x.count(0), 0);
        Check.due("a law with a FAULT", x.text(1), HeadYear.NONE);
        Check.due("refused: no law", x.count(2), 0);
        Check.feed(x, ";l");
        Check.due("no such sort", x.text(2), HeadYear.NONE);
        Check.due("no such sort", x.text(-1), HeadYear.NONE);
        Check.due("goes on behind a refusal", x.text(0), 1);
        Check.due("the TAPE is empty then", x.count(3), 0);
        Check.due("an empty TAPE is no valley", x.text(0), HeadYear.NONE);
        Check.due("an empty TAPE is no law", x.text(1), HeadYear.NONE);
        Check.due("the valley stays", x.count(0), 2);
        Check.feed(x, "l h1;l h1;k;k;");
        Check.due("another valley with a FAULT", x.text(0), HeadYear.NONE);
        Check.due("the valley stays as it was", x.count(1), 1);
        Check.due("and its huts", Check.level(x, 0, 0), 2);
        for (int law = 0; law < 4; law++) {
            Check.due("law " + law, Check.tell(x, 1, "y:" + law), law);
            Check.due("the TAPE is empty behind a law", x.count(3), 0);
        }
        Check.due("a fifth law", Check.tell(x, 1, "y:5"), HeadYear.NONE);
        Check.due("a fifth law stays on the TAPE", x.count(3), 3);
        Check.due("it has no FAULT", x.fault(1), HeadYear.NONE);
        Check.due("four laws", x.count(2), 4);
    }

    private static void anotherValley() {
        HeadYear x = Check.valley("l d0 h2;l d0;k b100 t0;k b0");
        Check.due("a law", Check.tell(x, 1, "y:0-9"), 0);
        Check.due("a law", Check.tell(x, 1, "y:b"), 1);
        x.law(1);
        x.set(0, 7);
        x.set(1, 1);
        x.set(2, 20);
        x.seed(99);
        x.hush(1, true);
        x.winters(2);
        x.image();
        x.buy(1, 1);
        Check.due("spent", x.family(1, 9), 20);
        Check.due("another one", Check.tell(x, 0, "l d0;l d0;l;k a1 p2 b100;k b0"), 2);
        Check.family(x, 0, 2, 1, 0, 0, 1, 0, 0, 0, 0, 0);
        Check.family(x, 1, 4, 0, 0, 0, 0, 0, 0, 0, 0, 0);
        long[] counts = {3, 2, 2, 0, 0, 1, 0, 0};
        for (int what = 0; what < counts.length; what++) {
            Check.due("another valley: count(" + what + ")", x.count(what), counts[what]);
        }
        Check.due("no DIARY", x.leanest(0), HeadYear.NONE);
        Check.due("no IMAGE", x.back(), HeadYear.NONE);
        Check.due("nothing to be UNDONE", x.undo(), HeadYear.NONE);
        Check.due("PRICE stays", x.buy(0, 1), 20);
        x.undo();
        Check.due("laws stay", x.law(0), true);
        x.winters(1);
        Check.due("to the lowest by law 0", x.family(0, 1), 0);

        // DEAD, DEBT, what is BOUGHT and HUSHED are gone with the valley ahead.
        HeadYear y = Check.valley("l d50 h1 f99;l d0 h1;k p12 b0;k a1 b0");
        Check.tell(y, 1, "y:1");
        y.law(0);
        y.winters(1);
        Check.due("DEAD", y.family(0, 6) > 0, true);
        Check.due("DEBT", y.family(0, 3), 1);
        y.buy(0, 1);
        y.hush(0, true);
        Check.tell(y, 0, "l;l;k;k");
        Check.family(y, 0, 4, 0, 0, 0, 0, 0, 0, 0, 0, 0);
        Check.family(y, 1, 4, 0, 1, 0, 0, 0, 0, 0, 0, 0);

        for (int seed = 0; seed < 12; seed++) {
            HeadYear one = Check.valley("l d0;l d0;k b50 t50");
            one.seed(seed);
            one.winters(3);
            Check.tell(one, 0, "l d0;l d0;k b50 t50");
            one.winters(1);
            Check.due("draws go on behind a new valley", one.family(0, 5), nextBorn(seed));
        }
    }

    /** BORN in the fourth winter of a family of 4 that starts anew with 4 heads behind three winters. */
    private static int nextBorn(long seed) {
        int[] draws = Check.draws(seed, 200);
        int at = 0;
        int heads = 4;
        for (int year = 0; year < 3; year++) {
            int born = draws[at++] < 50 ? (draws[at++] < 50 ? 2 : 1) : 0;
            at += heads;
            heads += born;
        }
        return draws[at++] < 50 ? (draws[at] < 50 ? 2 : 1) : 0;
    }

    private static void fewestAndMost() {
        HeadYear x = Check.valley("l h4;l h4;l h4;l;l;l;l;l;k;k;k;k;ka1;ka1;ka1;ka1;ka7;ka7");
        Check.due("eight levels", x.count(0), 8);
        Check.due("ten families", x.count(1), 10);
        Check.due("the last hut of a level", x.hut(1, 3), 7);
        Check.due("the tenth family", x.family(9, 1), 7);
        Check.due("level(7, 5)", Check.level(x, 7, 5), 2);
        Check.due("full(), levels 0, 1, 7", x.full(), 131);
        String text = "l h4 f99 d50 s0;";
        HeadYear y = new HeadYear();
        StringBuilder all = new StringBuilder();
        for (int i = 0; i < 8; i++) {
            all.append(text);
        }
        all.append("k;");
        while (all.length() < 159) {
            all.append(' ');
        }
        all.append('k');
        Check.due("160 bytes of the TAPE", Check.feed(y, all.toString()), 160);
        Check.due("are a valley", y.text(0), 2);
    }

    private static void views() {
        HeadYear x = Check.valley("l h1 f3;l h2 f1;l h1 f0;k p4;k a1 p1;k a1 p4");
        Check.due("full()", x.full(), 3);
        Check.due("hungry(0)", x.hungry(0), 3);
        Check.due("hungry(1)", x.hungry(1), 5);
        Check.due("hungry(2)", x.hungry(2), HeadYear.NONE);
        Check.due("hungry(-1)", x.hungry(-1), HeadYear.NONE);
        Check.due("level(1, 6)", Check.level(x, 1, 6), 4);
        Check.due("level(2, 6)", Check.level(x, 2, 6), 0);
        Check.due("rank(0)", x.rank(0), 0);
        Check.due("rank(1)", x.rank(1), 2);
        Check.due("rank(2)", x.rank(2), 1);
        Check.due("rank(3)", x.rank(3), HeadYear.NONE);
        Check.due("rank(-1)", x.rank(-1), HeadYear.NONE);
        Check.due("count(8)", x.count(8), HeadYear.HIDDEN);
        Check.due("count(-1)", x.count(-1), HeadYear.HIDDEN);
        Check.due("HEADS as many as FOOD", Check.valley("l f4;l;k").hungry(0), 0);
        x = Check.valley("l;l h1;l f4;k p5;k a1 p6;k p5;k a2 p5");
        Check.due("full(), not the lowest", x.full(), 3);
        x = Check.valley("l;l h1;l h1;l;k a1 p5;k a2 p6;k p5;k a3 p4;k a3 p12");
        Check.due("full(), the middle", x.full(), 14);
        int[] order = {4, 1, 0, 2, 3};
        for (int i = 0; i < order.length; i++) {
            Check.due("rank(" + i + ")", x.rank(i), order[i]);
        }
        x = Check.valley("l;l h4;k a1;k a1");
        Check.due("full() of none", x.full(), 0);
        Check.due("hungry of none", x.hungry(0), 0);
        Check.due("hungry of none", x.hungry(1), 0);
        Check.due("hungry, not the lowest", Check.valley("l;l f3;k a1").hungry(0), 2);
    }
}
