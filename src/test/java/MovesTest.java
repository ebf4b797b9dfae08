/** Promises 17 to 19: waiting, most, needs. */
final class MovesTest {
    public static void main(String[] args) {
        waiting();
        most();
        leastBits();
        lowestLevel();
        needs();
        needsOwnLevel();
        fewest();
        fullest();
        Check.finish();
    }

    /** A valley in which each FAMILY's DEBT is as told, and nobody could move in the spring. */
    private static HeadYear wanting(String valley, int... debts) {
        HeadYear x = Check.valley(valley);
        for (int family = 0; family < debts.length; family++) {
            if (debts[family] != 0) {
                x.buy(family, debts[family]);
            }
        }
        x.spring();
        return x;
    }

    private static void waiting() {
        HeadYear x = wanting("l h1;l h1;l h1 s1;k;k a1;k a2", 1, 0, -1);
        Check.due("waiting", x.waiting(), 1);
        Check.due("most(0)", x.most(0), 0);
        Check.due("most(1)", x.most(1), 0);
        Check.due("most(2)", x.most(2), HeadYear.NONE);
        Check.due("most(-1)", x.most(-1), HeadYear.NONE);
        Check.due("needs(0)", x.needs(0), HeadYear.NONE);
        Check.due("needs(1), not waiting", x.needs(1), HeadYear.NONE);
        Check.due("needs(3)", x.needs(3), HeadYear.NONE);
        Check.due("needs(-1)", x.needs(-1), HeadYear.NONE);
    }

    private static void most() {
        // From 2: 0, 1, nowhere, so that no ring is found; yet 0 and 2 could change.
        HeadYear x = wanting("l h1;l h2;l h1;k;k a1;k a1;k a2", 1, 1, -1);
        Check.due("waiting", x.waiting(), 7);
        Check.due("most(0)", x.most(0), 2);
        Check.due("most(1)", x.most(1), 5);
        Check.due("needs(0)", x.needs(0), 1);
        Check.due("needs(1)", x.needs(1), HeadYear.NONE);
        Check.due("needs(2)", x.needs(2), 1);
    }

    private static void leastBits() {
        // 0 and 1 want level 1; of 2 and 3 there the lowest, 2, leads to nowhere; 3 wants level 0.
        HeadYear x = wanting("l h2;l h2;l h1;k;k;k a1;k a1;k a2", 1, 1, 1, -1);
        Check.due("waiting", x.waiting(), 15);
        Check.due("most(0)", x.most(0), 2);
        Check.due("of {0, 3}, {1, 3} the least bits", x.most(1), 9);
        Check.due("needs(3)", x.needs(3), 1);
    }

    /** Two want the lowest level, one of it wants away: no more than one of them can go there. */
    private static void lowestLevel() {
        HeadYear x = wanting("l h2;l h2;l h1;k;k;k a1;k a1;k a2", 0, 1, -1, -1, -1);
        Check.due("waiting", x.waiting(), 16 + 8);
        x = wanting("l h1;l h3;l h1;k;k a1;k a1;k a1;k a2", 1, 1, -1, -1);
        Check.due("waiting", x.waiting(), 15);
        Check.due("most(0)", x.most(0), 2);
        Check.due("most(1)", x.most(1), 5);
    }

    private static void needs() {
        // 3 leads nowhere and is the lowest at level 2; 4 and 2 could change: 1 needs both others behind it.
        HeadYear x = wanting("l h1;l h1;l h2;l h1;k;k a1;k a2;k a2;k a3", 1, 1, 1, -2);
        Check.due("waiting", x.waiting(), 15);
        Check.due("needs(0) by 1 and 3", x.needs(0), 2);
        Check.due("needs(1) by 3 and 0", x.needs(1), 2);
        Check.due("needs(2), level 3 is full of who stays", x.needs(2), HeadYear.NONE);
        Check.due("needs(3) by 0 and 1", x.needs(3), 2);
        Check.due("most(1)", x.most(1), 11);

        // An empty hut where one wants to be needs nobody; behind a winter's spring there is none such.
        x = Check.valley("l h1;l h1;l h1;k b0;k a1 p1 b0");
        Check.tell(x, 1, "y:h=0?1;y:0");
        x.law(0);
        x.winters(1);
        Check.due("one waits", x.waiting(), 1);
        Check.due("a level full of who stays", x.needs(0), HeadYear.NONE);
    }

    private static void needsOwnLevel() {
        // 0 wants level 1, where 1 and 2 are; the way is 0 -> 1 by who goes to the own level of 0.
        HeadYear x = wanting("l h1;l h2;l h1;k;k a1;k a1;k a2", 1, 1, -1);
        Check.due("to its own level by one", x.needs(0), 1);
        Check.due("down by one", x.needs(2), 1);
    }

    /** Eight LEVELS, ten FAMILIES, a ring of the upper four but for 6 at LEVEL 5, who leads nowhere. */
    private static void fullest() {
        HeadYear x = wanting("lh2;lh1;lh1;lh1;lh1;lh2;lh1;lh1;k;k;ka1;ka2;ka3;ka4;ka5;ka5;ka6;ka7",
                0, 0, 0, 0, 0, 1, -3, 1, 1, -3);
        Check.due("full()", x.full(), 255);
        Check.due("waiting", x.waiting(), 992);
        Check.due("most(0)", x.most(0), 4);
        Check.due("most(1)", x.most(1), 928);
        Check.due("needs(9) by 5, 7, 8", x.needs(9), 3);
        Check.due("needs(5) by 7, 8, 9", x.needs(5), 3);
        Check.due("needs(6)", x.needs(6), HeadYear.NONE);
    }

    /** Of two ways the shorter one: over level 2 to level 0 by two, over level 1 straight by one. */
    private static void fewest() {
        HeadYear x = wanting("l h1;l h3;l h2;l h1;k;k a1;k a1;k a1;k a2;k a2;k a3",
                1, 2, 1, -1, 1, -2);
        Check.due("waiting", x.waiting(), 63);
        Check.due("the shorter way", x.needs(0), 1);
        Check.due("5 by 0 and 2", x.needs(5), 2);
        Check.due("2 by 5 and 0", x.needs(2), 2);
        Check.due("3 by 0", x.needs(3), 1);
        Check.due("1 can't", x.needs(1), HeadYear.NONE);
    }
}
