/**
 * All that a HeadYear answers, in one text: so that it is seen whether a refused call changed anything.
 * For valleys of a few levels and families: both texts of one object stay within its 512 calls.
 */
final class Snapshot {
    private final HeadYear x;
    private final StringBuilder text = new StringBuilder();
    private final int levels;
    private final int families;
    private final int years;

    private Snapshot(HeadYear x) {
        this.x = x;
        levels = x.count(0);
        families = x.count(1);
        years = x.count(4);
    }

    /** What is to be seen without changing anything. */
    static String now(HeadYear x) {
        Snapshot s = new Snapshot(x);
        s.counts();
        s.places();
        s.moves();
        s.diary();
        s.outlooks();
        return s.text.toString();
    }

    /** What is hidden till something is done: FIND, LUCK, PRICE, draws, buyings, the IMAGE, the TAPE. */
    static String then(HeadYear x) {
        Snapshot s = new Snapshot(x);
        for (int i = 0; i < 41 && s.put("undone", x.undo()) != HeadYear.NONE; i++) {
            s.put("buyings", x.count(6));
        }
        s.years();
        s.put("back", x.back());
        s.counts();
        s.put("tape as a law", x.text(1));
        x.feed('1', 0, 0, 0, 0);
        s.put("tape and 1 as a law", x.text(1));
        x.law(x.count(2) - 1);
        s.years();
        return s.text.toString();
    }

    private void years() {
        for (int family = 0; family < families; family++) {
            put("hushed", x.hush(family, true) ? 1 : 0);
            put("bought", x.buy(family, 1));
        }
        put("moved", x.spring());
        for (int i = 0; i < 5; i++) {
            put("heads", x.winters(1));
        }
        families();
    }

    private long put(String what, long answer) {
        text.append(what).append('=').append(answer).append(' ');
        return answer;
    }

    private void counts() {
        for (int what = 0; what < 8; what++) {
            put("count " + what, x.count(what));
        }
        put("fault", x.fault(0));
        put("fault of a law", x.fault(1));
    }

    private void families() {
        for (int family = 0; family < families; family++) {
            for (int what = 0; what < 10; what++) {
                put("family " + family + " " + what, x.family(family, what));
            }
        }
    }

    private void places() {
        families();
        for (int level = 0; level < levels; level++) {
            for (int what = 0; what < 7; what++) {
                put("level " + level + " " + what, Check.level(x, level, what));
            }
            for (int hut = 0; hut < Check.level(x, level, 0); hut++) {
                put("hut " + level + " " + hut, x.hut(level, hut));
            }
        }
        put("full", x.full());
        put("hungry", x.hungry(0));
        put("lacks", x.hungry(1));
        for (int i = 0; i < families; i++) {
            put("rank " + i, x.rank(i));
        }
    }

    private void moves() {
        put("waiting", x.waiting());
        put("most", x.most(1));
        for (int family = 0; family < families; family++) {
            put("needs " + family, x.needs(family));
        }
    }

    private void diary() {
        for (int family = 0; family < families; family++) {
            for (int year = Math.max(0, years - 3); year < years; year++) {
                put("diary " + family + " " + year, x.diary(family, year, 0));
                put("its heads", x.diary(family, year, 1));
            }
            put("climb " + family, x.climb(family, 0));
            put("its year", x.climb(family, 1));
            put("leap " + family, x.leap(family));
            put("met " + family, x.met(0, family, 0));
        }
        put("leanest", x.leanest(0));
        put("its heads", x.leanest(1));
    }

    private void outlooks() {
        for (int family = 0; family < families; family++) {
            put("odds " + family, x.odds(family, 2, 0));
            put("mean " + family, x.mean(family, 2));
            put("advice " + family, x.advice(family, 2, 2, 0));
            put("its heads", x.advice(family, 2, 2, 1));
        }
        for (int what = 0; what < 3; what++) {
            put("tried " + what, x.tried(HeadYear.NONE, 3, 2, what));
        }
        put("reform", x.reform(3, 2));
    }
}
