/** Promises 1 to 3: a new object, feed, end. */
final class TapeTest {
    public static void main(String[] args) {
        newObject();
        aheadOfAValley();
        feed();
        end();
        Check.finish();
    }

    private static void newObject() {
        HeadYear x = new HeadYear();
        long[] counts = {0, 0, 0, 0, 0, -1, 0, 0, HeadYear.HIDDEN};
        for (int what = 0; what < counts.length; what++) {
            Check.due("new: count(" + what + ")", x.count(what), counts[what]);
        }
        Check.due("new: level(0, 0)", Check.level(x, 0, 0), Check.THROWS);
        Check.due("new: family(0, 0)", x.family(0, 0), HeadYear.HIDDEN);
        Check.due("new: hut(0, 0)", x.hut(0, 0), HeadYear.NONE);
        Check.due("new: winters(1)", x.winters(1), HeadYear.NONE);
        Check.due("new: spring()", x.spring(), HeadYear.NONE);
        Check.due("new: buy(0, 1)", x.buy(0, 1), HeadYear.NONE);
        Check.due("new: undo()", x.undo(), HeadYear.NONE);
        Check.due("new: hush(0, true)", x.hush(0, true), false);
        Check.due("new: waiting()", x.waiting(), HeadYear.NONE);
        Check.due("new: most(0)", x.most(0), HeadYear.NONE);
        Check.due("new: needs(0)", x.needs(0), HeadYear.NONE);
        Check.due("new: odds(0, 1, 0)", x.odds(0, 1, 0), HeadYear.HIDDEN);
        Check.due("new: tried(-1, 1, 1, 0)", x.tried(-1, 1, 1, 0), HeadYear.HIDDEN);
        Check.due("new: reform(1, 1)", x.reform(1, 1), HeadYear.HIDDEN);
        Check.due("new: diary(0, 0, 0)", x.diary(0, 0, 0), HeadYear.HIDDEN);
        Check.due("new: climb(0, 0)", x.climb(0, 0), HeadYear.HIDDEN);
        Check.due("new: full()", x.full(), HeadYear.NONE);
        Check.due("new: hungry(0)", x.hungry(0), HeadYear.NONE);
        Check.due("new: rank(0)", x.rank(0), HeadYear.NONE);
        Check.due("new: met(0, 1, 0)", x.met(0, 1, 0), HeadYear.HIDDEN);
        Check.due("new: leap(0)", x.leap(0), HeadYear.HIDDEN);
        Check.due("new: leanest(0)", x.leanest(0), HeadYear.NONE);
        Check.due("new: mean(0, 1)", x.mean(0, 1), HeadYear.HIDDEN);
        Check.due("new: advice(0, 1, 1, 0)", x.advice(0, 1, 1, 0), HeadYear.HIDDEN);
        Check.due("new: image()", x.image(), HeadYear.NONE);
        Check.due("new: back()", x.back(), HeadYear.NONE);
    }

    /** What needs no VALLEY is done without one, and holds in the first. */
    private static void aheadOfAValley() {
        for (int seed = 0; seed < 20; seed++) {
            HeadYear x = new HeadYear();
            Check.due("a law", Check.tell(x, 1, "y:b"), 0);
            Check.due("law(0)", x.law(0), true);
            Check.due("set(0, 100)", x.set(0, 100), true);
            Check.due("set(1, 1)", x.set(1, 1), true);
            Check.due("set(2, 9)", x.set(2, 9), true);
            Check.due("seed", x.seed(seed), true);
            Check.due("a valley", Check.tell(x, 0, "l d0;l h4 d0;k p1 b100 t0"), 1);
            Check.due("the law holds", x.count(5), 0);
            Check.due("PRICE", x.buy(0, 1), 9);
            x.undo();
            x.hush(0, true);
            x.winters(1);
            // Draws of the birth, the twin, the one head, the finding; then one of four empty huts.
            long d = seed;
            for (int i = 0; i < 5; i++) {
                d = d * 6364136223846793005L + 1442695040888963407L;
            }
            Check.due("found by FIND of 100", x.family(0, 1), 1);
            Check.due("the hut by LUCK, from the seed", x.family(0, 2), (d >>> 33) % 4);
        }
    }

    private static void feed() {
        HeadYear x = new HeadYear();
        Check.due("nothing fed", x.feed(0, 0, 0, 0, 0), 0);
        // "l;l;k", its bytes in all five numbers and with bytes of 0 between them
        Check.due("fed with gaps", x.feed('l' << 16, ';' << 24, 'l' << 8, ';', ('k' << 24)), 5);
        Check.due("fed in order", x.fault(0), HeadYear.NONE);
        Check.due("a byte above 127 is one", x.feed(0xFF000000, 0, 0, 0, 0), 6);
        Check.due("a byte above 127 is no sign", x.fault(0), 5);
        x = new HeadYear();
        Check.due("highest first", x.feed(0x6C3B6C3B, 0x6B000000, 0, 0, 0), 5);
        Check.due("highest first goes on", x.fault(0), HeadYear.NONE);
        x = new HeadYear();
        for (int i = 1; i <= 8; i++) {
            Check.due("twenty more", x.feed(0x20202020, 0x20202020, 0x20202020, 0x20202020, 0x20202020), 20 * i);
        }
        Check.due("the 161st byte", x.feed(0x20000000, 0, 0, 0, 0), HeadYear.NONE);
        Check.due("160 bytes stay", x.count(3), 160);
        Check.due("no more byte on a full TAPE", x.feed(0, 0, 0, 0, 0), 160);
        Check.due("back to 159", x.end(159), true);
        Check.due("two more than 159", x.feed(0x20200000, 0, 0, 0, 0), HeadYear.NONE);
        Check.due("what is refused feeds nothing", x.count(3), 159);
        Check.due("one more than 159", x.feed(0, 0, 0, 0, 0x20), 160);
        for (int word = 0; word < 5; word++) {
            for (int shift = 0; shift < 32; shift += 8) {
                int[] w = new int[5];
                w[word] = 0x20 << shift;
                Check.due("each byte counts", x.feed(w[0], w[1], w[2], w[3], w[4]), HeadYear.NONE);
            }
        }
        Check.due("160 bytes stay", x.count(3), 160);
    }

    private static void end() {
        HeadYear x = new HeadYear();
        Check.due("end(0) of nothing", x.end(0), true);
        Check.due("end(1) of nothing", x.end(1), false);
        Check.feed(x, "l;l;kx");
        Check.due("end(7) of 6", x.end(7), false);
        Check.due("end(-1)", x.end(-1), false);
        Check.due("end(MIN)", x.end(Integer.MIN_VALUE), false);
        Check.due("refused: the TAPE stays", x.count(3), 6);
        Check.due("end(6) of 6", x.end(6), true);
        Check.due("all six are there", x.fault(0), 5);
        Check.due("end(5) of 6", x.end(5), true);
        Check.due("the first five", x.fault(0), HeadYear.NONE);
        Check.due("five bytes", x.count(3), 5);
        Check.feed(x, "p");
        Check.due("goes on behind the fifth", x.fault(0), 6);
    }
}
