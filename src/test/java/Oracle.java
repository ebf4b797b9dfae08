import java.util.ArrayList;
import java.util.List;

/** The document once more, written another way and with no care for speed; TwinTest holds HeadYear against it. */
final class Oracle {
    static final class Level {
        int h = 2;
        int f = 20;
        int d = 5;
        int s = 0;

        Level copy() {
            Level c = new Level();
            c.h = h;
            c.f = f;
            c.d = d;
            c.s = s;
            return c;
        }
    }

    static final class Family {
        int p = 4;
        int a = 0;
        int b = 30;
        int t = 5;
        int hut = -1;
        int debt;
        int born;
        int dead;
        int bought;
        int spent;
        boolean hushed;

        boolean gone() {
            return p == 0;
        }

        int level() {
            return gone() ? -1 : a;
        }

        Family copy() {
            Family c = new Family();
            c.p = p;
            c.a = a;
            c.b = b;
            c.t = t;
            c.hut = hut;
            c.debt = debt;
            c.born = born;
            c.dead = dead;
            c.bought = bought;
            c.spent = spent;
            c.hushed = hushed;
            return c;
        }
    }

    /** All that a year changes. */
    static final class State {
        List<Family> families = new ArrayList<>();
        List<int[][]> diary = new ArrayList<>();
        int years;
        long x;

        State copy() {
            State c = new State();
            for (Family f : families) {
                c.families.add(f.copy());
            }
            c.diary.addAll(diary);
            c.years = years;
            c.x = x;
            return c;
        }

        int draw(int n) {
            x = x * 6364136223846793005L + 1442695040888963407L;
            return (int) ((x >>> 33) % n);
        }
    }

    String tape = "";
    List<Level> levels = new ArrayList<>();
    State now = new State();
    State image;
    List<String> laws = new ArrayList<>();
    int held = -1;
    int find = 50;
    int luck = 0;
    int price = 10;
    List<int[]> buyings = new ArrayList<>();

    private List<Level> readLevels;
    private List<Family> readFamilies;

    int feed(int... words) {
        StringBuilder more = new StringBuilder(tape);
        for (int word : words) {
            for (int i = 3; i >= 0; i--) {
                int sign = (word >> 8 * i) & 0xFF;
                if (sign > 0) {
                    more.append((char) sign);
                }
            }
        }
        if (more.length() > 160) {
            return -1;
        }
        tape = more.toString();
        return tape.length();
    }

    boolean end(int n) {
        if (n < 0 || n > tape.length()) {
            return false;
        }
        tape = tape.substring(0, n);
        return true;
    }

    int fault(int sort) {
        return sort == 0 ? valleyFault() : sort == 1 ? lawFault() : -2;
    }

    /** Sign by sign: what may come is one of: c a clause, i an item or ;, n a number, d a digit more. */
    private int valleyFault() {
        readLevels = new ArrayList<>();
        readFamilies = new ArrayList<>();
        char may = 'c';
        char clause = ' ';
        String seen = "";
        String digits = "";
        for (int i = 0; i <= tape.length(); i++) {
            char c = i < tape.length() ? tape.charAt(i) : 0;
            if (may == 'd') {
                if (c >= '0' && c <= '9') {
                    digits += c;
                    if (digits.length() > 3) {
                        return i;
                    }
                    continue;
                }
                if (!put(clause, seen.charAt(seen.length() - 1), Integer.parseInt(digits))) {
                    return i - 1;
                }
                may = 'i';
            }
            if (i == tape.length()) {
                return may == 'i' && whole() ? -1 : tape.length();
            }
            if (c == ' ') {
                continue;
            }
            if (may == 'c') {
                if (c == 'l' && readLevels.size() < 8) {
                    readLevels.add(new Level());
                } else if (c == 'k' && readFamilies.size() < 10) {
                    readFamilies.add(new Family());
                } else {
                    return i;
                }
                clause = c;
                seen = "";
                may = 'i';
            } else if (may == 'i') {
                if (c == ';') {
                    may = 'c';
                } else if ((clause == 'l' ? "hfds" : "pabt").indexOf(c) >= 0 && seen.indexOf(c) < 0) {
                    seen += c;
                    may = 'n';
                } else {
                    return i;
                }
            } else {
                if (c < '0' || c > '9') {
                    return i;
                }
                digits = "" + c;
                may = 'd';
            }
        }
        throw new IllegalStateException();
    }

    private boolean put(char clause, char letter, int n) {
        if (clause == 'l') {
            Level l = readLevels.get(readLevels.size() - 1);
            switch (letter) {
                case 'h':
                    l.h = n;
                    return n >= 1 && n <= 4;
                case 'f':
                    l.f = n;
                    return n <= 99;
                case 'd':
                    l.d = n;
                    return n <= 50;
                default:
                    l.s = n;
                    return n <= 1;
            }
        }
        Family k = readFamilies.get(readFamilies.size() - 1);
        switch (letter) {
            case 'p':
                k.p = n;
                return n >= 1 && n <= 12;
            case 'a':
                k.a = n;
                return n <= 7;
            case 'b':
                k.b = n;
                return n <= 100;
            default:
                k.t = n;
                return n <= 100;
        }
    }

    private boolean whole() {
        int[] there = new int[8];
        for (Family f : readFamilies) {
            there[f.a]++;
        }
        for (int i = 0; i < 8; i++) {
            if (there[i] > (i < readLevels.size() ? readLevels.get(i).h : 0)) {
                return false;
            }
        }
        return readLevels.size() >= 2 && !readFamilies.isEmpty();
    }

    /** One open ( or [, or the clause itself. */
    private static final class Open {
        final char sort;
        boolean compared;
        boolean conditional;
        boolean last;
        int bangs;

        Open(char sort) {
            this.sort = sort;
            this.conditional = sort == '(';
        }

        boolean mayCompare() {
            return sort != '[' && !last && !compared;
        }
    }

    /** Sign by sign: what may come is one of: y, :, u a unit, a an atom, s a sign behind an atom, p behind a ). */
    private int lawFault() {
        List<Open> open = new ArrayList<>();
        char may = 'y';
        int digits = 0;
        for (int i = 0; i <= tape.length(); i++) {
            char c = i < tape.length() ? tape.charAt(i) : 0;
            if (digits > 0 && c >= '0' && c <= '9') {
                digits++;
                if (digits > 4) {
                    return i;
                }
                continue;
            }
            digits = 0;
            Open top = open.isEmpty() ? null : open.get(open.size() - 1);
            if (i == tape.length()) {
                boolean good = may == 's' && top.sort == 'y' && (top.last || !top.conditional && !top.compared);
                return good ? -1 : i;
            }
            if (c == ' ') {
                continue;
            }
            int within = open.size() - 1;
            for (Open o : open) {
                within += o.bangs;
            }
            switch (may) {
                case 'y':
                    if (c != 'y') {
                        return i;
                    }
                    may = ':';
                    break;
                case ':':
                    if (c != ':') {
                        return i;
                    }
                    open.clear();
                    open.add(new Open('y'));
                    may = 'u';
                    break;
                case 'u':
                case 'a':
                    if (c == '!' || c == '(') {
                        if (may == 'a' || within == 6) {
                            return i;
                        }
                        top.conditional = true;
                        if (c == '!') {
                            top.bangs++;
                        } else {
                            open.add(new Open('('));
                        }
                        may = 'u';
                    } else if (c == '[') {
                        if (within == 6) {
                            return i;
                        }
                        open.add(new Open('['));
                        may = 'a';
                    } else if ("bdphoy".indexOf(c) >= 0) {
                        may = 's';
                    } else if (c >= '0' && c <= '9') {
                        digits = 1;
                        may = 's';
                    } else {
                        return i;
                    }
                    break;
                case 's':
                    if ("+-*/".indexOf(c) >= 0) {
                        may = 'a';
                        break;
                    }
                    if ("=<>".indexOf(c) >= 0) {
                        if (!top.mayCompare()) {
                            return i;
                        }
                        top.compared = true;
                        top.conditional = true;
                        may = 'a';
                        break;
                    }
                    if (c == ']') {
                        if (top.sort != '[') {
                            return i;
                        }
                        open.remove(open.size() - 1);
                        break;
                    }
                    if (c == ';') {
                        if (top.sort != 'y' || !(top.last || !top.conditional)) {
                            return i;
                        }
                        may = 'y';
                        break;
                    }
                    if (!top.compared || top.last) {
                        return i;
                    }
                    may = 'p';
                    break;
                default:
                    break;
            }
            // Behind a whole comparison the same may come as behind a ).
            if (may == 'p') {
                if (c == '&' || c == '|') {
                    top.bangs = 0;
                    top.compared = false;
                    may = 'u';
                } else if (c == ')' && top.sort == '(') {
                    open.remove(open.size() - 1);
                    may = 'p';
                } else if (c == '?' && top.sort == 'y') {
                    top.bangs = 0;
                    top.last = true;
                    may = 'a';
                } else {
                    return i;
                }
            }
        }
        throw new IllegalStateException();
    }

    int text(int sort) {
        if (sort == 0 && valleyFault() == -1) {
            levels = readLevels;
            long x = now.x;
            now = new State();
            now.x = x;
            now.families = readFamilies;
            boolean[][] taken = new boolean[8][4];
            for (Family f : now.families) {
                f.hut = 0;
                while (taken[f.a][f.hut]) {
                    f.hut++;
                }
                taken[f.a][f.hut] = true;
            }
            image = null;
            buyings.clear();
            tape = "";
            return now.families.size();
        }
        if (sort == 1 && laws.size() < 4 && lawFault() == -1) {
            laws.add(tape.replace(" ", ""));
            tape = "";
            return laws.size() - 1;
        }
        return -1;
    }

    /** The place of the last of some signs outside all brackets, -1 if there is none. */
    private static int lastOf(String text, String signs) {
        int depth = 0;
        for (int i = text.length() - 1; i >= 0; i--) {
            char c = text.charAt(i);
            if (c == ')' || c == ']') {
                depth++;
            } else if (c == '(' || c == '[') {
                depth--;
            } else if (depth == 0 && signs.indexOf(c) >= 0) {
                return i;
            }
        }
        return -1;
    }

    static boolean holds(String text, int[] letters) {
        for (String sign : new String[] {"|", "&"}) {
            int at = lastOf(text, sign);
            if (at >= 0) {
                boolean left = holds(text.substring(0, at), letters);
                boolean right = holds(text.substring(at + 1), letters);
                return sign.equals("|") ? left || right : left && right;
            }
        }
        if (text.charAt(0) == '!') {
            return !holds(text.substring(1), letters);
        }
        if (text.charAt(0) == '(') {
            return holds(text.substring(1, text.length() - 1), letters);
        }
        int at = lastOf(text, "=<>");
        int left = sum(text.substring(0, at), letters);
        int right = sum(text.substring(at + 1), letters);
        return text.charAt(at) == '=' ? left == right : text.charAt(at) == '<' ? left < right : left > right;
    }

    static int sum(String text, int[] letters) {
        for (String signs : new String[] {"+-", "*/"}) {
            int at = lastOf(text, signs);
            if (at >= 0) {
                long left = sum(text.substring(0, at), letters);
                long right = sum(text.substring(at + 1), letters);
                long all;
                switch (text.charAt(at)) {
                    case '+':
                        all = left + right;
                        break;
                    case '-':
                        all = left - right;
                        break;
                    case '*':
                        all = left * right;
                        break;
                    default:
                        all = right == 0 ? 0 : left / right;
                }
                return (int) Math.max(-1000000, Math.min(1000000, all));
            }
        }
        if (text.charAt(0) == '[') {
            return sum(text.substring(1, text.length() - 1), letters);
        }
        int letter = "bdphoy".indexOf(text.charAt(0));
        return letter >= 0 ? letters[letter] : Integer.parseInt(text);
    }

    private int worth(int law, int... letters) {
        if (law < 0) {
            return letters[0] - letters[1];
        }
        for (String clause : laws.get(law).split(";")) {
            String rest = clause.substring(2);
            int at = rest.indexOf('?');
            if (at < 0 || holds(rest.substring(0, at), letters)) {
                return sum(rest.substring(at + 1), letters);
            }
        }
        return 0;
    }

    private static int bound(int n, int least, int most) {
        return Math.max(least, Math.min(most, n));
    }

    private int headsAt(State s, int level) {
        int sum = 0;
        for (Family f : s.families) {
            sum += f.level() == level ? f.p : 0;
        }
        return sum;
    }

    private int familiesAt(State s, int level) {
        int sum = 0;
        for (Family f : s.families) {
            sum += f.level() == level ? 1 : 0;
        }
        return sum;
    }

    private int lack(State s, int level) {
        return Math.max(0, headsAt(s, level) - levels.get(level).f);
    }

    private int allHeads(State s) {
        int sum = 0;
        for (Family f : s.families) {
            sum += f.p;
        }
        return sum;
    }

    private int want(Family f) {
        if (f.gone()) {
            return -1;
        }
        return levels.get(f.a).s == 1 ? f.a : bound(f.a + f.debt, 0, levels.size() - 1);
    }

    private boolean wants(Family f) {
        return want(f) != f.level();
    }

    private int who(State s, int level, int hut) {
        for (int i = 0; i < s.families.size(); i++) {
            Family f = s.families.get(i);
            if (!f.gone() && f.a == level && f.hut == hut) {
                return i;
            }
        }
        return -1;
    }

    private void winter(State s, int law) {
        int[] lacks = new int[levels.size()];
        for (int i = 0; i < lacks.length; i++) {
            lacks[i] = lack(s, i);
        }
        s.years++;
        for (Family f : s.families) {
            if (f.gone()) {
                continue;
            }
            int born = 0;
            if (s.draw(100) < f.b) {
                born = s.draw(100) < f.t ? 2 : 1;
            }
            int dead = 0;
            for (int i = 0; i < f.p; i++) {
                if (s.draw(100) < levels.get(f.a).d + lacks[f.a]) {
                    dead++;
                }
            }
            int counted = born;
            if (f.hushed && born > 0) {
                counted = s.draw(100) < find ? born * 2 : 0;
            }
            f.born += born;
            f.dead += dead;
            f.p = Math.min(20, f.p - dead + born);
            if (f.p == 0) {
                f.hut = -1;
                f.debt = 0;
                f.bought = 0;
                f.hushed = false;
            } else {
                f.debt = bound(f.debt + worth(law, counted, dead, f.p, f.a, f.debt, s.years), -9, 9);
            }
        }
    }

    private int spring(State s) {
        for (Family f : s.families) {
            if (!f.gone()) {
                f.debt += f.bought;
                f.bought = 0;
                f.debt = want(f) - f.a;
            }
        }
        int moved = 0;
        while (true) {
            int now = goIntoEmpty(s);
            if (now == 0) {
                now = goInRing(s);
            }
            if (now == 0) {
                return moved;
            }
            moved += now;
        }
    }

    private int goIntoEmpty(State s) {
        for (Family f : s.families) {
            if (!wants(f)) {
                continue;
            }
            int to = want(f);
            List<Integer> empty = new ArrayList<>();
            for (int hut = 0; hut < levels.get(to).h; hut++) {
                if (who(s, to, hut) < 0) {
                    empty.add(hut);
                }
            }
            if (!empty.isEmpty()) {
                f.hut = empty.get(luck == 1 ? s.draw(empty.size()) : 0);
                f.a = to;
                f.debt = 0;
                return 1;
            }
        }
        return 0;
    }

    private int goInRing(State s) {
        for (Family start : s.families) {
            if (!wants(start)) {
                continue;
            }
            List<Family> way = new ArrayList<>();
            Family at = start;
            while (at != null && !way.contains(at)) {
                way.add(at);
                Family next = null;
                for (Family other : s.families) {
                    if (next == null && other.level() == want(at) && wants(other)) {
                        next = other;
                    }
                }
                at = next;
            }
            if (at == null) {
                continue;
            }
            List<Family> ring = way.subList(way.indexOf(at), way.size());
            int[][] homes = new int[ring.size()][];
            for (int i = 0; i < homes.length; i++) {
                homes[i] = new int[] {ring.get(i).a, ring.get(i).hut};
            }
            for (int i = 0; i < homes.length; i++) {
                int[] home = homes[(i + 1) % homes.length];
                ring.get(i).a = home[0];
                ring.get(i).hut = home[1];
                ring.get(i).debt = 0;
            }
            return homes.length;
        }
        return 0;
    }

    private boolean none() {
        return levels.isEmpty();
    }

    private boolean is(int family) {
        return family >= 0 && family < now.families.size();
    }

    private boolean lives(int family) {
        return is(family) && !now.families.get(family).gone();
    }

    long level(int level, int what) {
        if (level < 0 || level >= levels.size() || what < 0 || what > 6) {
            return Check.THROWS;
        }
        Level l = levels.get(level);
        return new int[] {l.h, l.f, l.d, l.s, headsAt(now, level), familiesAt(now, level), lack(now, level)}[what];
    }

    int family(int family, int what) {
        if (!is(family) || what < 0 || what > 9) {
            return -1000000;
        }
        Family f = now.families.get(family);
        int hushed = f.hushed ? 1 : 0;
        return new int[] {f.p, f.level(), f.gone() ? -1 : f.hut, f.debt, want(f), f.born, f.dead, f.bought, hushed,
            f.spent}[what];
    }

    int hut(int level, int hut) {
        return level < 0 || hut < 0 ? -1 : who(now, level, hut);
    }

    boolean law(int law) {
        if (law < -1 || law >= laws.size()) {
            return false;
        }
        held = law;
        return true;
    }

    boolean set(int what, int v) {
        if (what < 0 || what > 2 || v < 0 || v > new int[] {100, 1, 99}[what]) {
            return false;
        }
        if (what == 0) {
            find = v;
        } else if (what == 1) {
            luck = v;
        } else {
            price = v;
        }
        return true;
    }

    boolean seed(long v) {
        now.x = v;
        return true;
    }

    int winters(int n) {
        if (none() || n < 1 || n > 9 || now.years + n > 60) {
            return -1;
        }
        for (int i = 0; i < n; i++) {
            winter(now, held);
            spring(now);
            int[][] row = new int[now.families.size()][];
            for (int k = 0; k < row.length; k++) {
                row[k] = new int[] {now.families.get(k).level(), now.families.get(k).p};
            }
            now.diary.add(row);
        }
        buyings.clear();
        return allHeads(now);
    }

    int spring() {
        if (none()) {
            return -1;
        }
        buyings.clear();
        return spring(now);
    }

    int buy(int family, int n) {
        if (!lives(family) || n == 0 || n > 3 || n < -3 || buyings.size() == 40) {
            return -1;
        }
        Family f = now.families.get(family);
        if (f.bought + n > 3 || f.bought + n < -3) {
            return -1;
        }
        int cost = (n < 0 ? -n : n) * price;
        f.bought += n;
        f.spent += cost;
        buyings.add(new int[] {family, n, cost});
        return cost;
    }

    int undo() {
        if (buyings.isEmpty()) {
            return -1;
        }
        int[] b = buyings.remove(buyings.size() - 1);
        now.families.get(b[0]).bought -= b[1];
        now.families.get(b[0]).spent -= b[2];
        return b[0];
    }

    boolean hush(int family, boolean is) {
        if (!lives(family) || now.families.get(family).hushed == is) {
            return false;
        }
        now.families.get(family).hushed = is;
        return true;
    }

    private int waiting(State s) {
        int bits = 0;
        for (int i = 0; i < s.families.size(); i++) {
            bits += wants(s.families.get(i)) ? 1 << i : 0;
        }
        return bits;
    }

    int waiting() {
        return none() ? -1 : waiting(now);
    }

    private boolean fits(int going) {
        int[] there = new int[levels.size()];
        for (int i = 0; i < now.families.size(); i++) {
            Family f = now.families.get(i);
            if (!f.gone()) {
                there[(going >> i & 1) == 1 ? want(f) : f.a]++;
            }
        }
        for (int i = 0; i < there.length; i++) {
            if (there[i] > levels.get(i).h) {
                return false;
            }
        }
        return true;
    }

    int most(int what) {
        if (none() || what < 0 || what > 1) {
            return -1;
        }
        int waiting = waiting(now);
        for (int size = 10; size >= 0; size--) {
            for (int bits = 0; bits < 1024; bits++) {
                if ((bits | waiting) == waiting && Integer.bitCount(bits) == size && fits(bits)) {
                    return what == 0 ? size : bits;
                }
            }
        }
        throw new IllegalStateException();
    }

    int needs(int family) {
        if (!is(family) || (waiting(now) >> family & 1) == 0) {
            return -1;
        }
        Family f = now.families.get(family);
        int best = fewest(f, want(f), 0);
        return best > 100 ? -1 : best;
    }

    /** All ways of up to ten are gone, each to its end. */
    private int fewest(Family f, int level, int gone) {
        if (level == f.a || familiesAt(now, level) < levels.get(level).h) {
            return gone;
        }
        int best = 1000;
        if (gone < levels.size()) {
            for (Family other : now.families) {
                if (other.level() == level && wants(other)) {
                    best = Math.min(best, fewest(f, want(other), gone + 1));
                }
            }
        }
        return best;
    }

    /** Parts by level and heads; gone is at [0][0]. */
    private long[][] parts(Family f, int n) {
        long[][] parts = new long[levels.size()][21];
        parts[f.a][f.p] = 1000000000L;
        long gone = 0;
        for (int w = 1; w <= n; w++) {
            long[][] next = new long[levels.size()][21];
            for (int level = 0; level < levels.size(); level++) {
                for (int heads = 1; heads <= 20; heads++) {
                    long births = parts[level][heads] * f.b / 100;
                    long twins = births * f.t / 100;
                    long[] shares = {parts[level][heads] - births, births - twins, twins};
                    for (int born = 0; born < 3; born++) {
                        long[] dead = {shares[born]};
                        for (int h = 0; h < heads; h++) {
                            long[] more = new long[h + 2];
                            for (int d = 0; d <= h; d++) {
                                long die = dead[d] * levels.get(level).d / 100;
                                more[d + 1] += die;
                                more[d] += dead[d] - die;
                            }
                            dead = more;
                        }
                        for (int d = 0; d <= heads; d++) {
                            int left = Math.min(20, heads - d + born);
                            if (left == 0) {
                                gone += dead[d];
                                continue;
                            }
                            int debt = bound(worth(held, born, d, left, level, 0, now.years + w), -9, 9);
                            int to = levels.get(level).s == 1 ? level : bound(level + debt, 0, levels.size() - 1);
                            next[to][left] += dead[d];
                        }
                    }
                }
            }
            parts = next;
        }
        parts[0][0] = gone;
        return parts;
    }

    int odds(int family, int n, int level) {
        if (!lives(family) || n < 1 || n > 9 || level < -1 || level >= levels.size()) {
            return -1000000;
        }
        long[][] parts = parts(now.families.get(family), n);
        long sum = level == -1 ? parts[0][0] : 0;
        for (int heads = 1; level >= 0 && heads <= 20; heads++) {
            sum += parts[level][heads];
        }
        return (int) sum;
    }

    long mean(int family, int n) {
        if (!lives(family) || n < 1 || n > 9) {
            return -1000000;
        }
        long sum = 0;
        for (long[] row : parts(now.families.get(family), n)) {
            for (int heads = 1; heads <= 20; heads++) {
                sum += heads * row[heads];
            }
        }
        return sum / 1000000;
    }

    private State trial(int law, int n, int seed, int family, int more) {
        State s = now.copy();
        s.x = seed;
        if (family >= 0) {
            s.families.get(family).bought += more;
        }
        for (int i = 0; i < n; i++) {
            winter(s, law);
            spring(s);
        }
        return s;
    }

    int tried(int law, int n, int k, int what) {
        boolean bad = n < 1 || n > 20 || k < 1 || k > 10 || what < 0 || what > 2;
        if (none() || bad || law < -1 || law >= laws.size()) {
            return -1000000;
        }
        int sum = 0;
        for (int seed = 0; seed < k; seed++) {
            State s = trial(law, n, seed, -1, 0);
            sum += what == 0 ? allHeads(s) : what == 1 ? familiesAt(s, -1) : Integer.bitCount(waiting(s));
        }
        return sum;
    }

    int reform(int n, int k) {
        if (none() || n < 1 || n > 20 || k < 1 || k > 10) {
            return -1000000;
        }
        int best = laws.size() - 1;
        for (int law = laws.size() - 1; law >= -1; law--) {
            best = tried(law, n, k, 0) >= tried(best, n, k, 0) ? law : best;
        }
        return best;
    }

    int diary(int family, int year, int what) {
        if (!is(family) || year < 0 || year >= now.diary.size() || what < 0 || what > 1) {
            return -1000000;
        }
        return now.diary.get(year)[family][what];
    }

    int climb(int family, int what) {
        if (!is(family) || what < 0 || what > 1) {
            return -1000000;
        }
        int years = now.diary.size();
        int most = 0;
        int first = years == 0 ? -1 : 0;
        for (int i = 0; i < years; i++) {
            for (int j = i + 1; j < years; j++) {
                int from = diary(family, i, 0);
                int to = diary(family, j, 0);
                if (from >= 0 && to >= 0 && to - from > most) {
                    most = to - from;
                    first = i;
                }
            }
        }
        return what == 0 ? most : first;
    }

    int full() {
        if (none()) {
            return -1;
        }
        int bits = 0;
        for (int i = 0; i < levels.size(); i++) {
            bits += familiesAt(now, i) >= levels.get(i).h ? 1 << i : 0;
        }
        return bits;
    }

    int hungry(int what) {
        if (none() || what < 0 || what > 1) {
            return -1;
        }
        int sum = 0;
        for (int i = 0; i < levels.size(); i++) {
            sum += what == 1 ? lack(now, i) : lack(now, i) > 0 ? 1 << i : 0;
        }
        return sum;
    }

    int rank(int i) {
        if (!is(i)) {
            return -1;
        }
        List<Integer> order = new ArrayList<>();
        for (int k = 0; k < now.families.size(); k++) {
            order.add(k);
        }
        order.sort((a, b) -> now.families.get(b).p - now.families.get(a).p);
        return order.get(i);
    }

    int met(int one, int other, int what) {
        if (!is(one) || !is(other) || one == other || what < 0 || what > 1) {
            return -1000000;
        }
        int times = 0;
        int latest = -1;
        for (int y = 0; y < now.diary.size(); y++) {
            if (diary(one, y, 0) >= 0 && diary(one, y, 0) == diary(other, y, 0)) {
                times++;
                latest = y;
            }
        }
        return what == 0 ? times : latest;
    }

    int leap(int family) {
        if (!is(family)) {
            return -1000000;
        }
        int most = 0;
        for (int y = 0; y + 1 < now.diary.size(); y++) {
            int from = diary(family, y, 0);
            int to = diary(family, y + 1, 0);
            if (from >= 0 && to >= 0) {
                most = Math.max(most, from < to ? to - from : from - to);
            }
        }
        return most;
    }

    int leanest(int what) {
        if (now.diary.isEmpty() || what < 0 || what > 1) {
            return -1;
        }
        int first = -1;
        int fewest = Integer.MAX_VALUE;
        for (int y = 0; y < now.diary.size(); y++) {
            int sum = 0;
            for (int[] entry : now.diary.get(y)) {
                sum += entry[1];
            }
            if (sum < fewest) {
                fewest = sum;
                first = y;
            }
        }
        return what == 0 ? first : fewest;
    }

    int advice(int family, int n, int k, int what) {
        if (!lives(family) || n < 1 || n > 20 || k < 1 || k > 10 || what < 0 || what > 1) {
            return -1000000;
        }
        int best = 0;
        int bestHeads = -1;
        int bought = now.families.get(family).bought;
        for (int all = -3; all <= 3; all++) {
            int more = all - bought;
            int heads = 0;
            for (int seed = 0; seed < k; seed++) {
                heads += trial(held, n, seed, family, more).families.get(family).p;
            }
            boolean nearer = Math.abs(more) < Math.abs(best);
            if (heads > bestHeads || heads == bestHeads && nearer) {
                best = more;
                bestHeads = heads;
            }
        }
        return what == 0 ? best : bestHeads;
    }

    int image() {
        if (none()) {
            return -1;
        }
        image = now.copy();
        return now.years;
    }

    int back() {
        if (image == null) {
            return -1;
        }
        now = image.copy();
        buyings.clear();
        return now.years;
    }

    int count(int what) {
        if (what < 0 || what > 7) {
            return -1000000;
        }
        return new int[] {levels.size(), now.families.size(), laws.size(), tape.length(), now.years, held,
            buyings.size(), familiesAt(now, -1)}[what];
    }
}
