/** Promises 13 to 15: spring, buy, undo; and what a SPRING is (Terms). */
final class SpringTest {
    public static void main(String[] args) {
        wants();
        empties();
        luck();
        rings();
        noRing();
        buy();
        undo();
        forty();
        Check.finish();
    }

    private static void wants() {
        HeadYear x = Check.valley("l h1;l h1;l h1 s1;l h1;k;k a1;k a2;k a3");
        x.buy(0, 3);
        x.buy(2, 1);
        x.buy(3, 3);
        x.buy(1, -3);
        Check.due("what is BOUGHT is no WANT yet", x.family(0, 4), 0);
        Check.due("nor WAITING", x.waiting(), 0);
        Check.due("what is BOUGHT is no DEBT yet", x.family(0, 3), 0);
        Check.due("nobody can move", x.spring(), 0);
        Check.family(x, 0, 4, 0, 0, 3, 3, 0, 0, 0, 0, 30);
        Check.family(x, 1, 4, 1, 0, -1, 0, 0, 0, 0, 0, 30);
        Check.family(x, 2, 4, 2, 0, 0, 2, 0, 0, 0, 0, 10);
        Check.family(x, 3, 4, 3, 0, 0, 3, 0, 0, 0, 0, 30);
        Check.due("WAITING", x.waiting(), 3);
        Check.due("a spring is no YEAR", x.count(4), 0);
        Check.due("nor in the diary", x.leanest(0), HeadYear.NONE);
        Check.due("DEBT stays", x.spring(), 0);
        Check.due("DEBT stays", x.family(0, 3), 3);
        x.buy(0, -1);
        x.buy(1, 1);
        x.spring();
        Check.due("DEBT and what was BOUGHT together", x.family(0, 3), 2);
        Check.due("no DEBT left", x.family(1, 3), 0);
    }

    private static void empties() {
        // 0 wants the full level 1; 1 leaves it for level 2, and 0 goes at once into the hut that it left.
        HeadYear x = Check.valley("l h1;l h2;l h3;k;k a1;k a1;k a2");
        x.buy(0, 1);
        x.buy(1, 1);
        Check.due("two moved", x.spring(), 2);
        Check.family(x, 0, 4, 1, 0, 0, 1, 0);
        Check.family(x, 1, 4, 2, 1, 0, 2, 0);
        Check.due("who stayed", x.family(2, 2), 1);
        Check.due("level 0 is empty", x.hut(0, 0), HeadYear.NONE);

        // Two want the one empty hut: the lower goes; the hut it leaves lets another one in.
        x = Check.valley("l h1;l h1;l h2;k a1;k;k a2");
        x.buy(0, 1);
        x.buy(1, 1);
        x.buy(2, -1);
        Check.due("two moved, one waits", x.spring(), 2);
        Check.family(x, 0, 4, 2, 1, 0);
        Check.family(x, 1, 4, 1, 0, 0);
        Check.family(x, 2, 4, 2, 0, -1, 1);

        // The lowest is asked again behind each move: 0 goes before 2, though 1 went first.
        x = Check.valley("l h1;l h1;l h1;l h1;k a1;k a2;k");
        x.buy(0, 1);
        x.buy(1, 1);
        x.buy(2, 2);
        Check.due("1 first, then 0, then none for 2", x.spring(), 2);
        Check.family(x, 0, 4, 2, 0, 0);
        Check.family(x, 1, 4, 3, 0, 0);
        Check.family(x, 2, 4, 0, 0, 2);

        // From hut 1 of level 2 one leaves: the lowest empty hut is taken, not the first one.
        x = Check.valley("l h1;l h4;k;k a1;k a1;k a1");
        x.buy(2, -1);
        x.buy(0, 1);
        Check.due("into hut 3 first", x.spring(), 2);
        Check.due("hut(1, 3)", x.hut(1, 3), 0);
        Check.due("hut(1, 1)", x.hut(1, 1), HeadYear.NONE);
        x.buy(2, 1);
        x.spring();
        Check.due("the lowest empty one", x.hut(1, 1), 2);
    }

    private static void luck() {
        for (int seed = 0; seed < 60; seed++) {
            HeadYear x = Check.valley("l h2;l h4;k;k a1;k a1;k");
            x.set(1, 1);
            x.seed(seed);
            x.buy(0, 1);
            x.buy(3, 1);
            long one = seed * 6364136223846793005L + 1442695040888963407L;
            long two = one * 6364136223846793005L + 1442695040888963407L;
            int[] empty = {2, 3};
            int first = (int) ((one >>> 33) % 2);
            x.spring();
            Check.due("a draw of two empty, seed " + seed, x.family(0, 2), empty[first]);
            Check.due("the other one", x.family(3, 2), empty[1 - first]);
            x.winters(1);
            int birth = (int) (((two * 6364136223846793005L + 1442695040888963407L) >>> 33) % 100);
            Check.due("a draw of one empty is a draw, too, seed " + seed, x.family(0, 5) > 0, birth < 30);
        }
        for (int seed = 0; seed < 60; seed++) {
            HeadYear x = Check.valley("l;l h3;k");
            x.set(1, 1);
            x.seed(seed);
            x.buy(0, 1);
            x.spring();
            int hut = (int) (((seed * 6364136223846793005L + 1442695040888963407L) >>> 33) % 3);
            Check.due("a draw of three, seed " + seed, x.family(0, 2), hut);
        }
        HeadYear x = Check.valley("l;l h4;k b50");
        x.buy(0, 1);
        x.seed(3);
        x.spring();
        Check.due("without LUCK the lowest", x.family(0, 2), 0);
        x.winters(1);
        Check.due("and no draw", x.family(0, 5) > 0, Check.draws(3, 1)[0] < 50);
    }

    private static void rings() {
        HeadYear x = Check.valley("l h1;l h1;l h1;k;k a1;k a2");
        x.buy(0, 1);
        x.buy(1, 1);
        x.buy(2, -2);
        Check.due("a ring of three", x.spring(), 3);
        Check.family(x, 0, 4, 1, 0, 0, 1);
        Check.family(x, 1, 4, 2, 0, 0, 2);
        Check.family(x, 2, 4, 0, 0, 0, 0);

        // Each takes the very hut of the next.
        x = Check.valley("l h2;l h3;l h4;k;k a1;k a2;k;k a1;k a2;k a1;k a2;k a2");
        x.buy(3, 1);
        x.buy(6, 1);
        x.buy(8, -2);
        Check.due("a ring of three", x.spring(), 3);
        Check.due("3 in the hut of 6", x.hut(1, 2), 3);
        Check.due("6 in the hut of 8", x.hut(2, 3), 6);
        Check.due("8 in the hut of 3", x.hut(0, 1), 8);

        // The lowest that wants away is asked at each level: 2 stays, 1 is in the ring; huts change owners.
        x = Check.valley("l h2;l h2;k;k;k a1;k a1");
        x.buy(1, 1);
        x.buy(2, -1);
        x.buy(3, -1);
        Check.due("a ring of two", x.spring(), 2);
        Check.family(x, 1, 4, 1, 0, 0, 1);
        Check.family(x, 2, 4, 0, 1, 0, 0);
        Check.family(x, 3, 4, 1, 1, -1, 0);

        // 0 leads into a ring without being in it: it goes on waiting till the ring is done.
        x = Check.valley("l h1;l h1;l h1;k;k a1;k a2");
        x.buy(0, 1);
        x.buy(1, 1);
        x.buy(2, -1);
        Check.due("a ring behind a way", x.spring(), 2);
        Check.family(x, 0, 4, 0, 0, 1, 1);
        Check.family(x, 1, 4, 2, 0, 0, 2);
        Check.family(x, 2, 4, 1, 0, 0, 1);

        // Two rings, one behind the other.
        x = Check.valley("l h1;l h1;l h1;l h1;k;k a1;k a2;k a3");
        x.buy(0, 1);
        x.buy(1, -1);
        x.buy(2, 1);
        x.buy(3, -1);
        Check.due("two rings", x.spring(), 4);
        Check.due("waiting", x.waiting(), 0);

        // An empty hut is asked for ahead of a ring: 2 goes up, so 0 follows it, and 1 stays.
        x = Check.valley("l h1;l h2;l h1;k;k a1;k a1");
        x.buy(0, 1);
        x.buy(1, -1);
        x.buy(2, 1);
        Check.due("empty ones first", x.spring(), 3);
        Check.family(x, 0, 4, 1, 1, 0);
        Check.family(x, 1, 4, 0, 0, 0);
        Check.family(x, 2, 4, 2, 0, 0);
    }

    private static void noRing() {
        // The lowest at level 1 that wants away leads nowhere, so the ring of 0 and 2 is not found.
        HeadYear x = Check.valley("l h1;l h2;l h1;k;k a1;k a1;k a2");
        x.buy(0, 1);
        x.buy(1, 1);
        x.buy(2, -1);
        Check.due("the lowest leads nowhere", x.spring(), 0);
        Check.due("all three go on waiting", x.waiting(), 7);
    }

    private static void buy() {
        HeadYear x = Check.valley("l;l;l;l;k;k");
        Check.due("buy(0, 0)", x.buy(0, 0), HeadYear.NONE);
        Check.due("buy(0, 4)", x.buy(0, 4), HeadYear.NONE);
        Check.due("buy(0, -4)", x.buy(0, -4), HeadYear.NONE);
        Check.due("buy(0, MIN)", x.buy(0, Integer.MIN_VALUE), HeadYear.NONE);
        Check.due("buy(2, 1)", x.buy(2, 1), HeadYear.NONE);
        Check.due("buy(-1, 1)", x.buy(-1, 1), HeadYear.NONE);
        Check.due("buy(0, 3)", x.buy(0, 3), 30);
        Check.due("more than 3 all together", x.buy(0, 1), HeadYear.NONE);
        Check.due("down from 3", x.buy(0, -3), 30);
        Check.due("down to -3", x.buy(0, -3), 30);
        Check.due("less than -3 all together", x.buy(0, -1), HeadYear.NONE);
        Check.due("BOUGHT", x.family(0, 7), -3);
        Check.due("spent in all", x.family(0, 9), 90);
        Check.due("buyings", x.count(6), 3);
        Check.due("of the other", x.family(1, 7), 0);
        x.buy(1, 2);
        Check.due("one moved", x.spring(), 1);
        Check.due("nothing is BOUGHT then", x.family(1, 7), 0);
        Check.due("spent stays", x.family(1, 9), 20);
        Check.due("up by two", x.family(1, 1), 2);
        Check.due("no buyings behind a spring", x.count(6), 0);
        x.buy(1, 1);
        x.winters(1);
        Check.due("no buyings behind a winter", x.count(6), 0);
    }

    private static void undo() {
        HeadYear x = Check.valley("l;l;k;k");
        Check.due("nothing to undo", x.undo(), HeadYear.NONE);
        x.buy(0, 2);
        x.set(2, 7);
        x.buy(1, -1);
        x.buy(0, -3);
        Check.due("spent", x.family(0, 9), 41);
        Check.due("the latest", x.undo(), 0);
        Check.due("BOUGHT again", x.family(0, 7), 2);
        Check.due("spent again", x.family(0, 9), 20);
        x.set(2, 50);
        Check.due("the one ahead", x.undo(), 1);
        Check.due("at the price of its day", x.family(1, 9), 0);
        Check.due("the first", x.undo(), 0);
        Check.due("nothing BOUGHT", x.family(0, 7), 0);
        Check.due("nothing spent", x.family(0, 9), 0);
        Check.due("none left", x.undo(), HeadYear.NONE);
        x.buy(0, 1);
        x.spring();
        Check.due("none behind a spring", x.undo(), HeadYear.NONE);
        x.buy(0, -1);
        x.winters(1);
        Check.due("none behind a winter", x.undo(), HeadYear.NONE);
        Check.due("refused: spent stays", x.family(0, 9), 100);
    }

    private static void forty() {
        HeadYear x = Check.valley("l;l;k");
        for (int i = 0; i < 40; i++) {
            Check.due("buying " + i, x.buy(0, i % 2 == 0 ? 1 : -1), 10);
        }
        Check.due("40 buyings", x.count(6), 40);
        Check.due("a 41st", x.buy(0, 1), HeadYear.NONE);
        Check.due("spent for 40", x.family(0, 9), 400);
        x.undo();
        Check.due("one again behind an undo", x.buy(0, 1), 10);
        Check.due("a 41st", x.buy(0, 1), HeadYear.NONE);
        for (int i = 0; i < 40; i++) {
            Check.due("undo " + i, x.undo(), 0);
        }
        Check.due("a 41st undo", x.undo(), HeadYear.NONE);
        Check.due("nothing spent", x.family(0, 9), 0);
    }
}
