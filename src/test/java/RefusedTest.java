import java.util.function.Supplier;
import java.util.function.ToLongFunction;

/** All promises: what is refused answers as told and changes nothing; each state is looked at whole, ahead and behind. */
final class RefusedTest {
    private static final int NONE = HeadYear.NONE;
    private static final int HIDDEN = HeadYear.HIDDEN;
    private static final int MIN = Integer.MIN_VALUE;
    private static final int MAX = Integer.MAX_VALUE;

    private static final long SEED = seed(0);
    private static final long GONE_SEED = seed(1);

    private final String name;
    private final Supplier<HeadYear> state;
    private final String now;
    private final String then;

    private RefusedTest(String name, Supplier<HeadYear> state) {
        this.name = name;
        this.state = state;
        HeadYear x = state.get();
        now = Snapshot.now(x);
        then = Snapshot.then(x);
        Check.due(name + ": asking changes nothing", Snapshot.then(state.get()), then);
    }

    public static void main(String[] args) {
        theSnapshotSees();
        RefusedTest valley = new RefusedTest("in a valley", () -> midst(false));
        valley.texts(2);
        valley.levels();
        valley.families();
        valley.settings();
        valley.years();
        valley.buyings();
        valley.outlooks();
        valley.views();
        new RefusedTest("with one GONE", () -> midst(true)).gone();
        new RefusedTest("without a valley", RefusedTest::nothing).noValley();
        new RefusedTest("behind 60 years", RefusedTest::sixty).noYears();
        new RefusedTest("with 59 years", RefusedTest::fiftyNine).oneYear();
        new RefusedTest("behind 40 buyings", RefusedTest::forty).noBuyings();
        new RefusedTest("with a full TAPE and four laws", RefusedTest::full).noTexts();
        new RefusedTest("in another valley", RefusedTest::another).noImage();
        Check.finish();
    }

    private void refused(String what, ToLongFunction<HeadYear> call, long want) {
        HeadYear x = state.get();
        Check.due(name + ": " + what, call.applyAsLong(x), want);
        Check.due(name + ": " + what + " changes nothing", Snapshot.now(x), now);
        Check.due(name + ": " + what + " changes nothing then", Snapshot.then(x), then);
    }

    private static long bit(boolean is) {
        return is ? 1 : 0;
    }

    /** Three families among three levels, two years old; LUCK, and a FIND and PRICE of its own. */
    private static HeadYear young(long seed) {
        HeadYear x = Check.valley("l h2 d0;l h1 d50 f99;l h4 d0;k b60 t50;k a1 p1 b0;k b90 t50");
        Check.tell(x, 1, "y:h=1?0;y:2*b-3");
        Check.tell(x, 1, "y:0-9");
        x.law(0);
        x.seed(seed);
        x.set(0, 40);
        x.set(1, 1);
        x.set(2, 7);
        x.winters(1);
        x.image();
        x.winters(1);
        return x;
    }

    /** The first seed by which so many are GONE behind two years, and none behind the first one. */
    private static long seed(int gone) {
        for (long seed = 0; seed < 1000; seed++) {
            HeadYear x = young(seed);
            if (x.count(7) == gone && x.diary(1, 0, 0) != NONE) {
                return seed;
            }
        }
        throw new IllegalStateException("no such seed");
    }

    /** With an image, buyings, a hushed one, bytes on the TAPE. */
    private static HeadYear midst(boolean gone) {
        HeadYear x = young(gone ? GONE_SEED : SEED);
        Check.due("its second family is GONE", x.family(1, 0) == 0, gone);
        x.hush(2, true);
        x.buy(0, 2);
        x.buy(2, -3);
        x.buy(0, 1);
        Check.feed(x, "y:b+");
        return x;
    }

    private static HeadYear nothing() {
        HeadYear x = new HeadYear();
        Check.tell(x, 1, "y:b");
        Check.feed(x, "y:d");
        x.seed(17);
        return x;
    }

    private static HeadYear years(int n) {
        HeadYear x = Check.valley("l d0;l d0;k b0;k b9");
        for (int left = n; left > 0; left -= 9) {
            x.winters(Math.min(9, left));
        }
        x.buy(0, 2);
        return x;
    }

    private static HeadYear sixty() {
        return years(60);
    }

    private static HeadYear fiftyNine() {
        return years(59);
    }

    private static HeadYear forty() {
        HeadYear x = Check.valley("l;l;k;k");
        for (int i = 0; i < 40; i++) {
            x.buy(i % 4 / 2, i % 2 == 0 ? 1 : -1);
        }
        return x;
    }

    private static HeadYear full() {
        HeadYear x = Check.valley("l;l;k;k");
        for (int law = 0; law < 4; law++) {
            Check.tell(x, 1, "y:" + law);
        }
        Check.feed(x, " ".repeat(155) + "y:b-d");
        return x;
    }

    private static HeadYear another() {
        HeadYear x = Check.valley("l;l;l;k;k a1");
        x.winters(2);
        x.image();
        x.buy(0, 1);
        Check.tell(x, 0, "l;l;k;k");
        return x;
    }

    /** A change of each thing that a refused call might change is to be seen. */
    private static void theSnapshotSees() {
        HeadYear x = midst(false);
        String now = Snapshot.now(x);
        String then = Snapshot.then(x);
        sees("nothing", now + then, y -> 0, true);
        sees("a seed", then, y -> bit(y.seed(4)), false);
        sees("FIND", then, y -> bit(y.set(0, 100)), false);
        sees("LUCK", then, y -> bit(y.set(1, 0)), false);
        sees("PRICE", then, y -> bit(y.set(2, 8)), false);
        sees("an image", then, y -> y.image(), false);
        sees("a byte", then, y -> y.feed('b', 0, 0, 0, 0), false);
        sees("another byte", then, y -> bit(y.end(3)) + y.feed('-', 0, 0, 0, 0), false);
        sees("a law", now, y -> bit(y.law(1)), false);
        sees("a buying", now, y -> y.buy(1, 1), false);
        sees("a hushed one", now, y -> bit(y.hush(0, true)), false);
        sees("a spring", now, y -> y.spring(), false);
        sees("a winter", now, y -> y.winters(1), false);
        sees("a buying undone", now, y -> y.undo(), false);
    }

    private static void sees(String what, String ahead, ToLongFunction<HeadYear> call, boolean same) {
        HeadYear x = midst(false);
        call.applyAsLong(x);
        String behind = Snapshot.now(x);
        String then = Snapshot.then(x);
        boolean is = ahead.equals(behind) || ahead.equals(then) || ahead.equals(behind + then);
        Check.due("the snapshot is the same behind " + what, is, same);
    }

    private void texts(int laws) {
        for (int n : new int[] {-1, 5, 160, MIN, MAX}) {
            refused("end(" + n + ")", x -> bit(x.end(n)), 0);
        }
        for (int sort : new int[] {-1, 2, MIN, MAX}) {
            refused("fault(" + sort + ")", x -> x.fault(sort), -2);
            refused("text(" + sort + ")", x -> x.text(sort), NONE);
        }
        refused("text(0) with a FAULT", x -> x.text(0), NONE);
        refused("text(1) with a FAULT", x -> x.text(1), NONE);
        for (int law : new int[] {-2, laws, MIN, MAX}) {
            refused("law(" + law + ")", x -> bit(x.law(law)), 0);
        }
    }

    private void levels() {
        for (int level : new int[] {-1, 3, 8, MIN, MAX}) {
            refused("level(" + level + ", 0)", x -> Check.level(x, level, 0), Check.THROWS);
            refused("hut(" + level + ", 0)", x -> x.hut(level, 0), NONE);
        }
        for (int what : new int[] {-1, 7, MIN, MAX}) {
            refused("level(0, " + what + ")", x -> Check.level(x, 0, what), Check.THROWS);
            refused("hut(0, " + what + ")", x -> x.hut(0, what), NONE);
        }
        refused("hut(0, 2)", x -> x.hut(0, 2), NONE);
    }

    private void families() {
        for (int family : new int[] {-1, 3, 10, MIN, MAX}) {
            refused("family(" + family + ", 0)", x -> x.family(family, 0), HIDDEN);
            refused("buy(" + family + ", 1)", x -> x.buy(family, 1), NONE);
            refused("hush(" + family + ", true)", x -> bit(x.hush(family, true)), 0);
            refused("hush(" + family + ", false)", x -> bit(x.hush(family, false)), 0);
            refused("needs(" + family + ")", x -> x.needs(family), NONE);
            refused("odds(" + family + ", 1, 0)", x -> x.odds(family, 1, 0), HIDDEN);
            refused("mean(" + family + ", 1)", x -> x.mean(family, 1), HIDDEN);
            refused("advice(" + family + ", 1, 1, 0)", x -> x.advice(family, 1, 1, 0), HIDDEN);
            refused("diary(" + family + ", 0, 0)", x -> x.diary(family, 0, 0), HIDDEN);
            refused("climb(" + family + ", 0)", x -> x.climb(family, 0), HIDDEN);
            refused("climb(" + family + ", 1)", x -> x.climb(family, 1), HIDDEN);
            refused("met(" + family + ", 0, 0)", x -> x.met(family, 0, 0), HIDDEN);
            refused("met(0, " + family + ", 0)", x -> x.met(0, family, 0), HIDDEN);
            refused("met(0, " + family + ", 1)", x -> x.met(0, family, 1), HIDDEN);
            refused("leap(" + family + ")", x -> x.leap(family), HIDDEN);
            refused("rank(" + family + ")", x -> x.rank(family), NONE);
        }
        for (int what : new int[] {-1, 10, MIN, MAX}) {
            refused("family(0, " + what + ")", x -> x.family(0, what), HIDDEN);
        }
        refused("hush of who is HUSHED", x -> bit(x.hush(2, true)), 0);
        refused("no hush of who is not", x -> bit(x.hush(0, false)), 0);
        refused("needs of who is not WAITING", x -> x.needs(1), NONE);
    }

    private void settings() {
        int[] most = {100, 1, 99};
        for (int what = 0; what < 3; what++) {
            for (int v : new int[] {-1, most[what] + 1, MIN, MAX}) {
                int w = what;
                refused("set(" + w + ", " + v + ")", x -> bit(x.set(w, v)), 0);
            }
        }
        for (int what : new int[] {-1, 3, MIN, MAX}) {
            refused("set(" + what + ", 0)", x -> bit(x.set(what, 0)), 0);
            refused("set(" + what + ", 1)", x -> bit(x.set(what, 1)), 0);
        }
    }

    private void years() {
        for (int n : new int[] {0, 10, -1, MIN, MAX}) {
            refused("winters(" + n + ")", x -> x.winters(n), NONE);
        }
        for (int year : new int[] {-1, 2, 60, MIN, MAX}) {
            refused("diary(0, " + year + ", 0)", x -> x.diary(0, year, 0), HIDDEN);
            refused("diary(0, " + year + ", 1)", x -> x.diary(0, year, 1), HIDDEN);
        }
    }

    private void buyings() {
        for (int levels : new int[] {0, 4, -4, MIN, MAX}) {
            refused("buy(1, " + levels + ")", x -> x.buy(1, levels), NONE);
        }
        for (int levels = 1; levels <= 3; levels++) {
            int n = levels;
            refused("buy(0, " + n + ") beyond 3", x -> x.buy(0, n), NONE);
            refused("buy(2, -" + n + ") beyond -3", x -> x.buy(2, -n), NONE);
        }
    }

    private void outlooks() {
        for (int n : new int[] {0, 10, -1, MIN, MAX}) {
            refused("odds(0, " + n + ", 0)", x -> x.odds(0, n, 0), HIDDEN);
            refused("mean(0, " + n + ")", x -> x.mean(0, n), HIDDEN);
        }
        for (int level : new int[] {-2, 3, MIN, MAX}) {
            refused("odds(0, 1, " + level + ")", x -> x.odds(0, 1, level), HIDDEN);
        }
        for (int law : new int[] {-2, 2, MIN, MAX}) {
            refused("tried(" + law + ", 1, 1, 0)", x -> x.tried(law, 1, 1, 0), HIDDEN);
        }
        int[][] bad = {{0, 1}, {21, 1}, {-1, 1}, {MIN, 1}, {MAX, 1}, {1, 0}, {1, 11}, {1, -1}, {1, MIN}, {1, MAX}};
        for (int[] nk : bad) {
            String of = nk[0] + ", " + nk[1];
            for (int what = 0; what < 3; what++) {
                int w = what;
                refused("tried(0, " + of + ", " + w + ")", x -> x.tried(0, nk[0], nk[1], w), HIDDEN);
            }
            refused("reform(" + of + ")", x -> x.reform(nk[0], nk[1]), HIDDEN);
            refused("advice(0, " + of + ", 0)", x -> x.advice(0, nk[0], nk[1], 0), HIDDEN);
            refused("advice(0, " + of + ", 1)", x -> x.advice(0, nk[0], nk[1], 1), HIDDEN);
        }
    }

    private void views() {
        for (int what : new int[] {-1, 2, MIN, MAX}) {
            refused("most(" + what + ")", x -> x.most(what), NONE);
            refused("hungry(" + what + ")", x -> x.hungry(what), NONE);
            refused("leanest(" + what + ")", x -> x.leanest(what), NONE);
            refused("diary(0, 0, " + what + ")", x -> x.diary(0, 0, what), HIDDEN);
            refused("climb(0, " + what + ")", x -> x.climb(0, what), HIDDEN);
            refused("met(0, 1, " + what + ")", x -> x.met(0, 1, what), HIDDEN);
            refused("advice(0, 1, 1, " + what + ")", x -> x.advice(0, 1, 1, what), HIDDEN);
        }
        for (int what : new int[] {-1, 3, MIN, MAX}) {
            refused("tried(0, 1, 1, " + what + ")", x -> x.tried(0, 1, 1, what), HIDDEN);
        }
        for (int what : new int[] {-1, 8, MIN, MAX}) {
            refused("count(" + what + ")", x -> x.count(what), HIDDEN);
        }
        for (int family = 0; family < 3; family++) {
            int f = family;
            refused("met(" + f + ", " + f + ", 0)", x -> x.met(f, f, 0), HIDDEN);
            refused("met(" + f + ", " + f + ", 1)", x -> x.met(f, f, 1), HIDDEN);
        }
    }

    /** Each call that takes a FAMILY, of one that is GONE. */
    private void gone() {
        for (int levels : new int[] {-3, -1, 1, 3, 0, 4}) {
            refused("buy(GONE, " + levels + ")", x -> x.buy(1, levels), NONE);
        }
        refused("hush(GONE, true)", x -> bit(x.hush(1, true)), 0);
        refused("hush(GONE, false)", x -> bit(x.hush(1, false)), 0);
        refused("needs(GONE)", x -> x.needs(1), NONE);
        for (int level = -1; level < 3; level++) {
            int l = level;
            refused("odds(GONE, 1, " + l + ")", x -> x.odds(1, 1, l), HIDDEN);
        }
        refused("mean(GONE, 1)", x -> x.mean(1, 1), HIDDEN);
        refused("advice(GONE, 1, 1, 0)", x -> x.advice(1, 1, 1, 0), HIDDEN);
        refused("advice(GONE, 1, 1, 1)", x -> x.advice(1, 1, 1, 1), HIDDEN);
    }

    /** Each call that needs a VALLEY, without one. */
    private void noValley() {
        refused("text(0)", x -> x.text(0), NONE);
        for (int what = -1; what < 8; what++) {
            int w = what;
            refused("level(0, " + w + ")", x -> Check.level(x, 0, w), Check.THROWS);
            refused("family(0, " + w + ")", x -> x.family(0, w), HIDDEN);
        }
        refused("hut(0, 0)", x -> x.hut(0, 0), NONE);
        refused("winters(1)", x -> x.winters(1), NONE);
        refused("winters(9)", x -> x.winters(9), NONE);
        refused("spring()", x -> x.spring(), NONE);
        refused("buy(0, 1)", x -> x.buy(0, 1), NONE);
        refused("undo()", x -> x.undo(), NONE);
        refused("hush(0, true)", x -> bit(x.hush(0, true)), 0);
        refused("hush(0, false)", x -> bit(x.hush(0, false)), 0);
        refused("waiting()", x -> x.waiting(), NONE);
        refused("needs(0)", x -> x.needs(0), NONE);
        refused("odds(0, 1, 0)", x -> x.odds(0, 1, 0), HIDDEN);
        refused("odds(0, 1, NONE)", x -> x.odds(0, 1, NONE), HIDDEN);
        refused("reform(1, 1)", x -> x.reform(1, 1), HIDDEN);
        refused("full()", x -> x.full(), NONE);
        refused("rank(0)", x -> x.rank(0), NONE);
        refused("leap(0)", x -> x.leap(0), HIDDEN);
        refused("mean(0, 1)", x -> x.mean(0, 1), HIDDEN);
        refused("image()", x -> x.image(), NONE);
        refused("back()", x -> x.back(), NONE);
        for (int what = 0; what < 2; what++) {
            int w = what;
            refused("most(" + w + ")", x -> x.most(w), NONE);
            refused("diary(0, 0, " + w + ")", x -> x.diary(0, 0, w), HIDDEN);
            refused("climb(0, " + w + ")", x -> x.climb(0, w), HIDDEN);
            refused("hungry(" + w + ")", x -> x.hungry(w), NONE);
            refused("met(0, 1, " + w + ")", x -> x.met(0, 1, w), HIDDEN);
            refused("leanest(" + w + ")", x -> x.leanest(w), NONE);
            refused("advice(0, 1, 1, " + w + ")", x -> x.advice(0, 1, 1, w), HIDDEN);
        }
        for (int what = 0; what < 3; what++) {
            int w = what;
            refused("tried(NONE, 1, 1, " + w + ")", x -> x.tried(NONE, 1, 1, w), HIDDEN);
            refused("tried(0, 1, 1, " + w + ")", x -> x.tried(0, 1, 1, w), HIDDEN);
        }
    }

    private void noYears() {
        for (int n = 1; n <= 9; n++) {
            int winters = n;
            refused("winters(" + n + ")", x -> x.winters(winters), NONE);
        }
        refused("diary(0, 60, 0)", x -> x.diary(0, 60, 0), HIDDEN);
    }

    private void oneYear() {
        for (int n = 2; n <= 9; n++) {
            int winters = n;
            refused("winters(" + n + ")", x -> x.winters(winters), NONE);
        }
        refused("diary(0, 59, 0)", x -> x.diary(0, 59, 0), HIDDEN);
    }

    private void noBuyings() {
        for (int levels = -3; levels <= 3; levels++) {
            int n = levels;
            refused("a 41st, buy(0, " + n + ")", x -> x.buy(0, n), NONE);
            refused("a 41st, buy(1, " + n + ")", x -> x.buy(1, n), NONE);
        }
    }

    private void noTexts() {
        for (int shift = 0; shift < 32; shift += 8) {
            int word = 'b' << shift;
            refused("a 161st byte in the first number", x -> x.feed(word, 0, 0, 0, 0), NONE);
            refused("a 161st byte in the last number", x -> x.feed(0, 0, 0, 0, word), NONE);
        }
        refused("twenty more", x -> x.feed(-1, -1, -1, -1, -1), NONE);
        refused("end(161)", x -> bit(x.end(161)), 0);
        refused("a fifth law", x -> x.text(1), NONE);
        refused("law(4)", x -> bit(x.law(4)), 0);
        refused("tried(4, 1, 1, 0)", x -> x.tried(4, 1, 1, 0), HIDDEN);
    }

    private void noImage() {
        refused("back()", x -> x.back(), NONE);
        refused("undo()", x -> x.undo(), NONE);
        refused("diary(0, 0, 0)", x -> x.diary(0, 0, 0), HIDDEN);
        refused("level(2, 0)", x -> Check.level(x, 2, 0), Check.THROWS);
        refused("leanest(0)", x -> x.leanest(0), NONE);
    }
}
