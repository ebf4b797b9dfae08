/** What README.md says: its example call by call, its texts, and what each refused call answers. */
final class ReadmeTest {
    private static final String VALLEY = "l;l h3 f12 d5 s1;k p4 a1 b30 t5;k";
    private static final String LAW = "y: b > d & !(p < 3) ? b - d; y: [h + o] / 2";

    public static void main(String[] args) {
        example();
        valleyText();
        lawText();
        refusedWithNone();
        refusedWithHidden();
        refusedOtherwise();
        Check.finish();
    }

    private static void example() {
        HeadYear x = new HeadYear();
        Check.due("feed l;l;k", x.feed(0x6C3B6C3B, 0x6B000000, 0, 0, 0), 5);
        Check.due("fault(0)", x.fault(0), -1);
        Check.due("text(0)", x.text(0), 1);
        Check.due("the tape is empty again", x.count(3), 0);
        Check.due("feed y:b-d", x.feed(0x793A622D, 0x64000000, 0, 0, 0), 5);
        Check.due("text(1)", x.text(1), 0);
        Check.due("law(0)", x.law(0), true);
        Check.due("seed(6)", x.seed(6), true);
        Check.due("winters(3)", x.winters(3), 7);
        Check.due("family(0, 1)", x.family(0, 1), 1);
        Check.due("diary(0, 2, 0)", x.diary(0, 2, 0), 1);
    }

    private static void valleyText() {
        HeadYear x = Check.valley(VALLEY);
        long[] level = {3, 12, 5, 1, 4, 1, 0};
        for (int what = 0; what < level.length; what++) {
            Check.due("level(1, " + what + ")", Check.level(x, 1, what), level[what]);
        }
        Check.family(x, 0, 4, 1, 0, 0, 1, 0, 0, 0, 0, 0);
        Check.family(x, 1, 4, 0, 0, 0, 0, 0, 0, 0, 0, 0);
        Check.due("a hut that is empty", x.hut(0, 1), HeadYear.NONE);
    }

    private static void lawText() {
        HeadYear x = Check.valley(VALLEY);
        Check.due("the law", Check.tell(x, 1, LAW), 0);
        Check.due("it holds", x.law(0), true);
        Check.due("none holds", x.law(HeadYear.NONE), true);
    }

    private static void refusedWithNone() {
        HeadYear x = new HeadYear();
        Check.feed(x, "y".repeat(160));
        Check.due("feed", x.feed(1, 0, 0, 0, 0), HeadYear.NONE);
        Check.due("text", x.text(0), HeadYear.NONE);
        Check.due("a refused text stays", x.count(3), 160);
        Check.due("hut", x.hut(0, 0), HeadYear.NONE);
        Check.due("winters", x.winters(1), HeadYear.NONE);
        Check.due("spring", x.spring(), HeadYear.NONE);
        Check.due("buy", x.buy(0, 1), HeadYear.NONE);
        Check.due("undo", x.undo(), HeadYear.NONE);
        Check.due("waiting", x.waiting(), HeadYear.NONE);
        Check.due("most", x.most(0), HeadYear.NONE);
        Check.due("needs", x.needs(0), HeadYear.NONE);
        Check.due("full", x.full(), HeadYear.NONE);
        Check.due("hungry", x.hungry(0), HeadYear.NONE);
        Check.due("rank", x.rank(0), HeadYear.NONE);
        Check.due("leanest", x.leanest(0), HeadYear.NONE);
        Check.due("image", x.image(), HeadYear.NONE);
        Check.due("back", x.back(), HeadYear.NONE);
    }

    private static void refusedWithHidden() {
        HeadYear x = new HeadYear();
        Check.due("family", x.family(0, 0), HeadYear.HIDDEN);
        Check.due("odds", x.odds(0, 1, 0), HeadYear.HIDDEN);
        Check.due("tried", x.tried(HeadYear.NONE, 1, 1, 0), HeadYear.HIDDEN);
        Check.due("reform", x.reform(1, 1), HeadYear.HIDDEN);
        Check.due("diary", x.diary(0, 0, 0), HeadYear.HIDDEN);
        Check.due("climb", x.climb(0, 0), HeadYear.HIDDEN);
        Check.due("met", x.met(0, 1, 0), HeadYear.HIDDEN);
        Check.due("leap", x.leap(0), HeadYear.HIDDEN);
        Check.due("mean", x.mean(0, 1), HeadYear.HIDDEN);
        Check.due("advice", x.advice(0, 1, 1, 0), HeadYear.HIDDEN);
        Check.due("count", x.count(8), HeadYear.HIDDEN);
    }

    private static void refusedOtherwise() {
        HeadYear x = new HeadYear();
        Check.due("end", x.end(1), false);
        Check.due("law", x.law(0), false);
        Check.due("set", x.set(3, 0), false);
        Check.due("hush", x.hush(0, true), false);
        Check.due("fault", x.fault(2), -2);
        Check.due("level", Check.level(x, 0, 0), Check.THROWS);
        Check.due("seed", x.seed(Long.MIN_VALUE), true);
    }
}
