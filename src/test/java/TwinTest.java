import java.util.Random;

/** Runs of calls by fixed seeds, each answer of HeadYear held against the Oracle's: all promises together. */
final class TwinTest {
    private final Random random;
    private final HeadYear x = new HeadYear();
    private final Oracle o = new Oracle();
    private final int run;
    private final StringBuilder calls = new StringBuilder();
    private boolean wrong = false;
    private int asked = 0;

    private TwinTest(int run) {
        this.run = run;
        this.random = new Random(run);
    }

    public static void main(String[] args) {
        int runs = args.length > 0 ? Integer.parseInt(args[0]) : 500;
        int from = args.length > 1 ? Integer.parseInt(args[1]) : 0;
        int bad = 0;
        for (int run = from; run < from + runs && bad < 5; run++) {
            bad += new TwinTest(run).go() ? 0 : 1;
        }
        if (bad > 0) {
            System.exit(1);
        }
    }

    private boolean go() {
        boolean texts = run % 10 == 0;
        boolean crowded = run % 10 == 5;
        if (!texts) {
            if (random.nextInt(4) > 0) {
                laws();
            }
            tell(0, crowded ? crowd() : valley());
            if (random.nextInt(2) > 0) {
                laws();
            }
            setUp();
        }
        // An object is used for 512 calls; one step here may make some 150 of them.
        for (int i = 0; i < 150 && !wrong && asked < 350; i++) {
            if (texts) {
                tell(random.nextInt(2), random.nextInt(2) == 0 ? broken(valley()) : broken(law()));
            } else if (crowded && i % 4 > 0) {
                push();
            } else {
                call();
            }
        }
        return !wrong;
    }

    private int upTo(int n) {
        return random.nextInt(n + 1);
    }

    /** Mostly within, now and then at or beyond the edges. */
    private int near(int least, int most) {
        int pick = random.nextInt(24);
        if (pick == 0) {
            return least - 1;
        }
        if (pick == 1) {
            return most + 1;
        }
        return least + upTo(most - least);
    }

    private void same(String what, long got, long want) {
        asked++;
        calls.append(what).append(" = ").append(want).append('\n');
        if (got != want && !wrong) {
            wrong = true;
            System.out.println("run " + run + ":\n" + calls + "the last one answered " + got);
        }
    }

    private void tell(int sort, String text) {
        boolean stays = o.end(0);
        same("end(0)", x.end(0) ? 1 : 0, stays ? 1 : 0);
        for (int from = 0; from < text.length(); from += 20) {
            int[] w = Check.words(text, from);
            same("feed " + text, x.feed(w[0], w[1], w[2], w[3], w[4]), o.feed(w));
        }
        same("fault(0) of '" + text + "'", x.fault(0), o.fault(0));
        same("fault(1) of '" + text + "'", x.fault(1), o.fault(1));
        same("text(" + sort + ") of '" + text + "', " + stays, x.text(sort), o.text(sort));
        same("bytes left", x.count(3), o.count(3));
    }

    private void setUp() {
        seed(random.nextInt(4) == 0 ? random.nextLong() : upTo(1000));
        for (int what = 0; what < 3; what++) {
            if (random.nextInt(2) == 0) {
                int v = near(0, what == 1 ? 1 : 99);
                same("set(" + what + ", " + v + ")", x.set(what, v) ? 1 : 0, o.set(what, v) ? 1 : 0);
            }
        }
        holding();
    }

    private void holding() {
        int law = near(-1, 3);
        same("law(" + law + ")", x.law(law) ? 1 : 0, o.law(law) ? 1 : 0);
    }

    private void seed(long v) {
        same("seed(" + v + ")", x.seed(v) ? 1 : 0, o.seed(v) ? 1 : 0);
    }

    private void laws() {
        int laws = 1 + upTo(4);
        for (int i = 0; i < laws; i++) {
            tell(1, law());
        }
    }

    private String valley() {
        int levels = 2 + upTo(random.nextInt(3) == 0 ? 6 : 2);
        StringBuilder text = new StringBuilder();
        int[] huts = new int[levels];
        boolean tight = random.nextBoolean();
        int food = random.nextInt(3) * 30;
        for (int i = 0; i < levels; i++) {
            huts[i] = tight ? 1 + upTo(1) : 1 + upTo(3);
            text.append('l').append(huts[i] == 2 ? "" : "h" + huts[i]);
            if (random.nextInt(2) == 0) {
                text.append('f').append(upTo(food));
            }
            if (random.nextInt(2) == 0) {
                text.append('d').append(upTo(random.nextInt(6) == 0 ? 50 : 8));
            }
            if (random.nextInt(6) == 0) {
                text.append("s1");
            }
            text.append(';');
        }
        int families = 1 + upTo(9);
        boolean any = false;
        for (int i = 0; i < families && text.length() < 140; i++) {
            int level = upTo(levels - 1);
            if (huts[level] == 0 && any) {
                continue;
            }
            huts[level]--;
            text.append(any ? ";k" : "k").append(level == 0 ? "" : "a" + level);
            any = true;
            if (random.nextInt(3) == 0) {
                text.append('p').append(1 + upTo(11));
            }
            if (random.nextInt(3) == 0) {
                text.append('b').append(upTo(100));
            }
            if (random.nextInt(3) == 0) {
                text.append('t').append(upTo(100));
            }
        }
        return text.toString();
    }

    /** Full levels, in which who would go has to wait. */
    private String crowd() {
        int levels = 2 + upTo(2);
        StringBuilder text = new StringBuilder();
        StringBuilder families = new StringBuilder();
        int left = 10;
        for (int i = 0; i < levels; i++) {
            int huts = Math.min(1 + upTo(3), left - (levels - 1 - i));
            left -= huts;
            text.append("lh").append(huts).append("d0;");
            for (int h = random.nextInt(12) == 0 ? 1 : 0; h < huts; h++) {
                families.append(";ka").append(i).append("b0");
            }
        }
        return text.append(families.length() > 0 ? families.substring(1) : "k").toString();
    }

    /** Many want away at once, then it is asked who could. */
    private void push() {
        int families = o.now.families.size();
        for (int f = 0; f < families; f++) {
            int more = upTo(6) - 3;
            if (random.nextInt(3) > 0) {
                same("buy(" + f + ", " + more + ")", x.buy(f, more), o.buy(f, more));
            }
        }
        same("spring()", x.spring(), o.spring());
        same("waiting()", x.waiting(), o.waiting());
        same("most(0)", x.most(0), o.most(0));
        same("most(1)", x.most(1), o.most(1));
        for (int f = 0; f < families; f++) {
            same("family(" + f + ", 1)", x.family(f, 1), o.family(f, 1));
            same("family(" + f + ", 2)", x.family(f, 2), o.family(f, 2));
            same("needs(" + f + ")", x.needs(f), o.needs(f));
        }
    }

    private String law() {
        StringBuilder text = new StringBuilder();
        int clauses = 1 + upTo(2);
        for (int i = 0; i < clauses; i++) {
            text.append(i > 0 ? ";y:" : "y:");
            if (random.nextInt(3) > 0) {
                condition(text, 2);
                text.append('?');
            }
            sum(text, 2);
        }
        return text.toString();
    }

    private void condition(StringBuilder text, int depth) {
        int units = 1 + (random.nextInt(3) == 0 ? upTo(2) : 0);
        for (int i = 0; i < units; i++) {
            if (i > 0) {
                text.append(random.nextBoolean() ? '&' : '|');
            }
            while (random.nextInt(5) == 0) {
                text.append('!');
            }
            if (depth > 0 && random.nextInt(4) == 0) {
                text.append('(');
                condition(text, depth - 1);
                text.append(')');
            } else {
                sum(text, depth - 1);
                text.append("=<>".charAt(upTo(2)));
                sum(text, depth - 1);
            }
        }
    }

    private void sum(StringBuilder text, int depth) {
        int atoms = 1 + (random.nextInt(2) == 0 ? upTo(2) : 0);
        for (int i = 0; i < atoms; i++) {
            if (i > 0) {
                text.append("+-*/".charAt(upTo(3)));
            }
            if (depth > 0 && random.nextInt(4) == 0) {
                text.append('[');
                sum(text, depth - 1);
                text.append(']');
            } else if (random.nextInt(3) > 0) {
                text.append("bdphoy".charAt(upTo(5)));
            } else {
                text.append(upTo(random.nextInt(8) == 0 ? 9999 : 4));
            }
        }
    }

    /** The text with blanks put in, and in most cases a few signs changed. */
    private String broken(String text) {
        StringBuilder b = new StringBuilder(text);
        String signs = "lk hfdspabt;0123456789y:?!([])|&=<>+-*/bdpho";
        for (int i = random.nextInt(4); i > 0; i--) {
            b.insert(upTo(b.length()), ' ');
        }
        for (int i = random.nextInt(4); i > 0 && b.length() > 0; i--) {
            int at = random.nextInt(b.length());
            char sign = signs.charAt(upTo(signs.length() - 1));
            switch (random.nextInt(4)) {
                case 0:
                    b.deleteCharAt(at);
                    break;
                case 1:
                    b.insert(at, sign);
                    break;
                case 2:
                    b.setCharAt(at, sign);
                    break;
                default:
                    b.insert(at, b.substring(at, Math.min(b.length(), at + 1 + upTo(6))));
            }
        }
        return b.substring(0, Math.min(160, random.nextInt(8) == 0 ? upTo(b.length()) : b.length()));
    }

    private void call() {
        int families = o.now.families.size();
        int levels = o.levels.size();
        int f = near(0, families - 1);
        int n = near(1, 3);
        int k = near(1, 3);
        int bit = near(0, 1);
        switch (random.nextInt(34)) {
            case 0:
                for (int l = -1; l <= levels; l++) {
                    for (int w = -1; w <= 7; w++) {
                        same("level(" + l + ", " + w + ")", Check.level(x, l, w), o.level(l, w));
                    }
                }
                break;
            case 1:
            case 2:
                everyFamily(families);
                break;
            case 3:
                for (int l = -1; l <= levels; l++) {
                    for (int h = -1; h <= 4; h++) {
                        same("hut(" + l + ", " + h + ")", x.hut(l, h), o.hut(l, h));
                    }
                }
                break;
            case 4:
                holding();
                break;
            case 5:
                setUp();
                break;
            case 6:
            case 7:
                int w = random.nextInt(10) == 0 ? near(1, 9) : near(1, 2);
                same("winters(" + w + ")", x.winters(w), o.winters(w));
                everyFamily(families);
                break;
            case 8:
                same("spring()", x.spring(), o.spring());
                everyFamily(families);
                break;
            case 9:
            case 10:
            case 11:
                int times = random.nextInt(30) == 0 ? 45 : 1 + upTo(4);
                for (int i = 0; i < times; i++) {
                    int buyer = near(0, families - 1);
                    int more = near(-3, 3);
                    same("buy(" + buyer + ", " + more + ")", x.buy(buyer, more), o.buy(buyer, more));
                }
                break;
            case 12:
                same("undo()", x.undo(), o.undo());
                break;
            case 13:
                boolean is = random.nextInt(3) > 0;
                same("hush(" + f + ", " + is + ")", x.hush(f, is) ? 1 : 0, o.hush(f, is) ? 1 : 0);
                break;
            case 14:
                same("waiting()", x.waiting(), o.waiting());
                break;
            case 15:
                same("most(0)", x.most(0), o.most(0));
                same("most(1)", x.most(1), o.most(1));
                same("most(" + bit + ")", x.most(bit), o.most(bit));
                break;
            case 16:
                for (int i = -1; i <= families; i++) {
                    same("needs(" + i + ")", x.needs(i), o.needs(i));
                }
                break;
            case 17:
                int winters = near(1, random.nextInt(4) == 0 ? 9 : 2);
                for (int l = -2; l <= levels; l++) {
                    same("odds(" + f + ", " + winters + ", " + l + ")", x.odds(f, winters, l), o.odds(f, winters, l));
                }
                break;
            case 18:
                int law = near(-1, 3);
                int years = near(1, random.nextInt(4) == 0 ? 20 : 4);
                int what = near(0, 2);
                same("tried(" + law + ", " + years + ", " + k + ", " + what + ")",
                        x.tried(law, years, k, what), o.tried(law, years, k, what));
                break;
            case 19:
                same("reform(" + n + ", " + k + ")", x.reform(n, k), o.reform(n, k));
                break;
            case 20:
                int year = near(0, o.now.years - 1 < 0 ? 0 : o.now.years - 1);
                same("diary(" + f + ", " + year + ", " + bit + ")", x.diary(f, year, bit), o.diary(f, year, bit));
                break;
            case 21:
                same("climb(" + f + ", " + bit + ")", x.climb(f, bit), o.climb(f, bit));
                break;
            case 22:
                same("full()", x.full(), o.full());
                break;
            case 23:
                same("hungry(" + bit + ")", x.hungry(bit), o.hungry(bit));
                break;
            case 24:
                for (int i = -1; i <= families; i++) {
                    same("rank(" + i + ")", x.rank(i), o.rank(i));
                }
                break;
            case 25:
                int other = near(0, families - 1);
                same("met(" + f + ", " + other + ", " + bit + ")", x.met(f, other, bit), o.met(f, other, bit));
                break;
            case 26:
                same("leap(" + f + ")", x.leap(f), o.leap(f));
                break;
            case 27:
                same("leanest(" + bit + ")", x.leanest(bit), o.leanest(bit));
                break;
            case 28:
                int span = near(1, random.nextInt(4) == 0 ? 9 : 2);
                same("mean(" + f + ", " + span + ")", x.mean(f, span), o.mean(f, span));
                break;
            case 29:
                same("advice(" + f + ", " + n + ", " + k + ", 0)", x.advice(f, n, k, 0), o.advice(f, n, k, 0));
                same("advice(" + f + ", " + n + ", " + k + ", 1)", x.advice(f, n, k, 1), o.advice(f, n, k, 1));
                break;
            case 30:
                if (random.nextInt(2) == 0) {
                    same("image()", x.image(), o.image());
                }
                break;
            case 31:
                if (random.nextInt(2) == 0) {
                    same("back()", x.back(), o.back());
                }
                break;
            case 32:
                for (int i = -1; i <= 8; i++) {
                    same("count(" + i + ")", x.count(i), o.count(i));
                }
                break;
            default:
                if (random.nextInt(6) == 0) {
                    tell(random.nextInt(2), random.nextInt(2) == 0 ? valley() : law());
                }
        }
    }

    private void everyFamily(int families) {
        for (int i = -1; i <= families; i++) {
            for (int w = -1; w <= 10; w++) {
                same("family(" + i + ", " + w + ")", x.family(i, w), o.family(i, w));
            }
        }
    }
}
