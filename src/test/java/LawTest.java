/** Promise 9: law; and what LAWS say (Terms). */
final class LawTest {
    public static void main(String[] args) {
        whichHolds();
        askedFirst();
        sums();
        withinAMillion();
        dividing();
        conditions();
        clauses();
        letters();
        heldDebt();
        Check.finish();
    }

    private static void whichHolds() {
        HeadYear x = new HeadYear();
        Check.due("law(-1) of none", x.law(HeadYear.NONE), true);
        Check.due("law(0) of none", x.law(0), false);
        Check.tell(x, 1, "y:1");
        Check.due("a law told does not hold yet", x.count(5), HeadYear.NONE);
        Check.due("law(0) of one", x.law(0), true);
        Check.due("law 0 holds", x.count(5), 0);
        Check.due("law(1) of one", x.law(1), false);
        Check.due("law(-2)", x.law(-2), false);
        Check.due("refused: law 0 holds", x.count(5), 0);
        Check.due("law(NONE)", x.law(HeadYear.NONE), true);
        Check.due("none holds", x.count(5), HeadYear.NONE);
        for (int law = 1; law < 4; law++) {
            Check.tell(x, 1, "y:" + (law + 1));
        }
        Check.due("the fourth law", x.law(3), true);
        Check.due("a fifth one", x.law(4), false);
        Check.tell(x, 0, "l d0;l d0;l d0;l d0;l d0;k b0");
        x.winters(1);
        Check.due("the law that holds is asked", x.family(0, 1), 4);
        x.law(HeadYear.NONE);
        x.winters(1);
        Check.due("none: COUNTED less DEAD", x.family(0, 1), 4);
    }

    /** What was read for a FAULT alone is not in the LAW told then. */
    private static void askedFirst() {
        HeadYear x = Check.valley("l d0;l d0;l d0;k b0");
        Check.feed(x, "y:1");
        x.fault(1);
        x.end(2);
        x.fault(1);
        Check.feed(x, "2");
        x.fault(1);
        Check.due("text(1)", x.text(1), 0);
        x.law(0);
        x.winters(1);
        Check.due("by the law as told", x.family(0, 1), 2);
    }

    /** The LEVEL to which a FAMILY of 4 HEADS without births and deaths goes from LEVEL 0 by a law. */
    private static int worth(String law) {
        HeadYear x = Check.valley("l d0;l d0;l d0;l d0;l d0;l d0;l d0;l d0;k b0");
        Check.due("the law " + law, Check.tell(x, 1, law), 0);
        x.law(0);
        x.winters(1);
        return x.family(0, 1);
    }

    private static void holds(String condition, boolean want) {
        Check.due("whether " + condition, worth("y:" + condition + "?1;y:0") == 1, want);
    }

    private static void sums() {
        holds("1+2*3=7", true);
        holds("[1+2]*3=9", true);
        holds("8-3-2=3", true);
        holds("8-[3-2]=7", true);
        holds("64/4/2=8", true);
        holds("100/7*7=98", true);
        holds("2*7/4=3", true);
        holds("7/2=3", true);
        holds("[0-7]/2=0-3", true);
        holds("7/[0-2]=0-3", true);
        holds("[0-7]/[0-2]=3", true);
        holds("5/0=0", true);
        holds("0/5=0", true);
        holds("9999*9999=1000*1000", true);
        holds("9999*9999+1=1000*1000", true);
        holds("9999*9999-1=999*1000+999", true);
        holds("0-9999*9999=0-1000*1000", true);
        holds("0-1000*1000-1=0-1000*1000", true);
        holds("[0-9999]*9999+1=0-999*1000-999", true);
        holds("1000*1000+1000*1000-1000*1000=0", true);
        holds("[0-1000*1000]*[0-1000*1000]=1000*1000", true);
        holds("1000*1000/1000=1000", true);
        holds("0009=9", true);
    }

    /** "Behind each sign numbers are within -1,000,000 .. 1,000,000": each sign from both sides of both ends. */
    private static void withinAMillion() {
        String[] ends = {"", "0-"};
        for (String minus : ends) {
            String other = minus.isEmpty() ? "0-" : "";
            String most = "[" + minus + "1000*1000]";
            String less = "[" + minus + "[999*1000+999]]";
            String one = "[" + minus + "1]";
            holds(most + "-" + one + "=" + less, true);
            holds(less + "+" + one + "=" + most, true);
            holds(less + "+" + one + "+" + one + "=" + most, true);
            holds(most + "+" + one + "=" + most, true);
            holds(most + "+" + one + "-" + one + "=" + less, true);
            holds(most + "-[" + other + "1]=" + most, true);
            holds(most + "-[" + other + "1]+[" + other + "1]=" + less, true);
            String far = minus.isEmpty() ? "+9999+9999" : "-9999-9999";
            holds(most + far + "-" + one + "=" + less, true);
            holds(less + "*1=" + less, true);
            holds(most + "*1=" + most, true);
            holds(most + "*2=" + most, true);
            holds(most + "*2/2=[" + minus + "500*1000]", true);
            holds(most + "*2-" + one + "=" + less, true);
            holds("[" + minus + "1001]*999=" + less, true);
            holds("[" + minus + "1001]*1000=" + most, true);
            holds(most + "*[0-1]=[" + other + "1000*1000]", true);
            holds(most + "/[0-1]=[" + other + "1000*1000]", true);
            holds(most + "/1=" + most, true);
            holds(most + "/1000*1000=" + most, true);
            holds(most + "*" + most + "=1000*1000", true);
            holds(most + "+" + most + "-" + most + "=0", true);
        }
    }

    /** "/ cuts towards 0, by 0 gives 0". */
    private static void dividing() {
        for (int a = -9; a <= 9; a++) {
            for (int b = -4; b <= 4; b++) {
                int c = b == 0 ? 0 : a / b;
                holds("[0+" + inBrackets(a) + "]/" + inBrackets(b) + "=" + inBrackets(c), true);
                holds(inBrackets(a) + "/" + inBrackets(b) + "+1=" + inBrackets(c + 1), true);
            }
        }
        holds("9999/0=0", true);
        holds("5/[3-3]=0", true);
        holds("5/0/0=0", true);
        holds("5*3/0+2=2", true);
        holds("5/[1/2]=0", true);
    }

    private static String inBrackets(int n) {
        return n < 0 ? "[0-" + -n + "]" : "" + n;
    }

    private static void conditions() {
        // A ! of each sort of truth, and of each sort of untruth.
        for (String truth : new String[] {"1<2", "2>1", "1=1", "(1=1&2=2)", "(1=2|2=2)", "(1<2)", "!1=2", "!(1>2)"}) {
            holds("!" + truth, false);
            holds("!!" + truth, true);
            holds("!!!" + truth, false);
        }
        for (String untruth : new String[] {"2<2", "2>2", "1=2", "(1=1&2=3)", "(1=2|2=3)", "!1<2", "!(2>1)"}) {
            holds("!" + untruth, true);
            holds("!!" + untruth, false);
        }
        holds("1<2", true);
        holds("2<1", false);
        holds("1<1", false);
        holds("2>1", true);
        holds("1>2", false);
        holds("1>1", false);
        holds("1=1", true);
        holds("1=2", false);
        holds("1=1&2=2", true);
        holds("1=1&1=2", false);
        holds("1=2&1=1", false);
        holds("1=1|1=2", true);
        holds("1=2|1=1", true);
        holds("1=2|1=2", false);
        holds("1=1|1=1", true);
        holds("1=1|1=2&1=2", true);
        holds("1=2&1=2|1=1", true);
        holds("(1=1|1=2)&1=2", false);
        holds("1=2&(1=2|1=1)", false);
        holds("!1=1", false);
        holds("!1=2", true);
        holds("!!1=1", true);
        holds("!1=2&1=2", false);
        holds("!(1=2&1=2)", true);
        holds("!1=1|1=1", true);
        holds("!(1=1|1=1)", false);
        holds("0-1<0", true);
        holds("((1=1))", true);
        holds("!!!!![1]=2", true);
    }

    private static void clauses() {
        Check.due("the first that holds", worth("y:1=2?5;y:1=1?2;y:3"), 2);
        Check.due("the first without a condition", worth("y:1=2?5;y:4;y:1=1?2"), 4);
        Check.due("the first of all", worth("y:6;y:1=1?2"), 6);
        Check.due("none that holds", worth("y:1=2?5;y:!1=1?2"), 0);
        Check.due("the last that holds", worth("y:1=2?5;y:1=3?2;y:(1=4)?1;y:1<2?7"), 7);
        Check.due("with blanks", worth("  y : ! ( p > 12 ) ? [ 3 + 4 ] / 2 ; y : 1  "), 3);
    }

    private static void letters() {
        HeadYear x = Check.valley("l d0;l d0;l d0;k p3 b100 t100 a1");
        Check.tell(x, 1, "y:b=2&d=0&p=5&h=1&o=0&y=1?1;y:0-1");
        x.law(0);
        x.winters(1);
        Check.due("b d p h o y in the first winter", x.family(0, 1), 2);
        Check.tell(x, 1, "y:b=2&p=7&h=2&y=2?0-1;y:0");
        x.law(1);
        x.winters(1);
        Check.due("p h y in the second winter", x.family(0, 1), 1);

        // One waits below a full level: its DEBT is 1 ahead of the next winter.
        x = Check.valley("l d0 h1;l d0 h1;k b0;k b0 a1");
        Check.tell(x, 1, "y:h=0&o=0?1;y:h=0&o=1?0-1;y:0");
        x.law(0);
        x.winters(1);
        Check.due("it waits", x.family(0, 3), 1);
        x.winters(1);
        Check.due("o is DEBT as it was", x.family(0, 3), 0);

        // d and b apart: by the draws of a seed in which two die and one is born.
        for (int seed = 0; seed < 300; seed++) {
            int[] draws = Check.draws(seed, 20);
            boolean child = draws[0] < 50;
            int at = child ? 2 : 1;
            int born = child ? (draws[1] < 50 ? 2 : 1) : 0;
            int dead = 0;
            for (int head = 0; head < 6; head++) {
                dead += draws[at + head] < 50 ? 1 : 0;
            }
            if (dead < 6 || born > 0) {
                x = Check.valley("l d50 f99;l;l;l;l;l;l;l;k p6 b50 t50");
                Check.tell(x, 1, "y:b*3+d");
                x.law(0);
                x.seed(seed);
                x.winters(1);
                Check.due("3b + d by seed " + seed, x.family(0, 1), Math.min(7, born * 3 + dead));
            }
        }
    }

    /** DEBT of 9 at most: seen by what is BOUGHT against it. */
    private static void heldDebt() {
        HeadYear x = Check.valley("l d0;l d0;l d0;l d0;l d0;l d0;l d0;l d0;k b0;k b0 a7");
        Check.tell(x, 1, "y:h=0?9999;y:0-9999");
        x.law(0);
        x.buy(0, -3);
        x.buy(1, 3);
        x.winters(1);
        Check.due("9 less 3", x.family(0, 1), 6);
        Check.due("9 less 3 down", x.family(1, 1), 1);
    }
}
