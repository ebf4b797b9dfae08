import java.util.NoSuchElementException;
import java.util.Random;

/** Wild arguments in all states: nothing but level's NoSuchElementException is ever thrown, and each call ends. */
final class StormTest {
    private static final long[] WILD = {0, 1, 2, 3, 5, 9, 10, 20, 60, 99, 100, 160, -1, -2, -3, -1000000,
        Integer.MAX_VALUE, Integer.MIN_VALUE, 0x6C3B6C3B, 0x6B000000, 0x793A6200};
    private static final String[] TEXTS = {"l;l;k;k", "l h1;l h1;l h1 s1;k b99 t99;k a1 p12;k a2 d",
        "l f0 d50;l h4;k p12;k p12;ka1;ka1;ka1;ka1", "y:b-d", "y:!(b>1)&[h-9]/0<0?9999*9999;y:o-9999",
        "y:((((((1=1))))))?[[[[[[b]]]]]]", "y:(((((((1=1", "y:!!!!!!!", "\u00ff\u0080", "",
        "l h4;l h4;l h4;l;l;l;l;l f0 d50;k;k;k;k;ka1;ka1;ka1;ka1;ka2;ka7 p12 b100 t100",
        "l h4 d50;l h4;l h4;l;l;l;l s1;l;k p12;k p1 b0;k b90;k;ka1;ka1;ka1;ka1;ka2;ka2", "y:y"};

    public static void main(String[] args) {
        for (int run = 0; run < 250; run++) {
            Random random = new Random(run);
            HeadYear x = new HeadYear();
            for (int i = 0; i < 512; i++) {
                int call = random.nextInt(37);
                try {
                    go(x, random, call);
                } catch (RuntimeException e) {
                    boolean due = call == 5 && e instanceof NoSuchElementException;
                    if (!due) {
                        Check.due("run " + run + ", call " + call + " threw " + e, 1, 0);
                    }
                }
            }
        }
        Check.finish();
    }

    private static int wild(Random random) {
        return random.nextInt(3) == 0 ? (int) WILD[random.nextInt(WILD.length)] : random.nextInt(5) - 1;
    }

    private static void go(HeadYear x, Random random, int call) {
        int a = wild(random);
        int b = wild(random);
        int c = wild(random);
        int d = wild(random);
        switch (call) {
            case 0:
                x.feed(a, b, c, d, random.nextInt());
                break;
            case 1:
                x.end(a);
                break;
            case 2:
                x.fault(a);
                break;
            case 3:
                x.text(a);
                break;
            case 4:
                Check.tell(x, random.nextInt(2), TEXTS[random.nextInt(TEXTS.length)]);
                break;
            case 5:
                x.level(a, b);
                break;
            case 6:
                x.family(a, b);
                break;
            case 7:
                x.hut(a, b);
                break;
            case 8:
                x.law(a);
                break;
            case 9:
                x.set(a, b);
                break;
            case 10:
                x.seed(random.nextLong());
                break;
            case 11:
                x.winters(a);
                break;
            case 12:
                x.spring();
                break;
            case 13:
                x.buy(a, b);
                break;
            case 14:
                x.undo();
                break;
            case 15:
                x.hush(a, random.nextBoolean());
                break;
            case 16:
                x.waiting();
                break;
            case 17:
                x.most(a);
                break;
            case 18:
                x.needs(a);
                break;
            case 19:
                x.odds(a, b, c);
                break;
            case 20:
                x.tried(a, b, c, d);
                break;
            case 21:
                x.reform(a, b);
                break;
            default:
                more(x, call, a, b, c, d);
        }
    }

    private static void more(HeadYear x, int call, int a, int b, int c, int d) {
        switch (call) {
            case 22:
                x.diary(a, b, c);
                break;
            case 23:
                x.climb(a, b);
                break;
            case 24:
                x.full();
                break;
            case 25:
                x.hungry(a);
                break;
            case 26:
                x.rank(a);
                break;
            case 27:
                x.met(a, b, c);
                break;
            case 28:
                x.leap(a);
                break;
            case 29:
                x.leanest(a);
                break;
            case 30:
                x.mean(a, b);
                break;
            case 31:
                x.advice(a, b, c, d);
                break;
            case 32:
                x.image();
                break;
            case 33:
                x.back();
                break;
            default:
                x.count(a);
        }
    }
}
