import java.util.Arrays;
import java.util.NoSuchElementException;

/** A valley of levels, the families in its huts, and the laws by which they go up and down. */
public final class HeadYear {
    public static final int NONE = -1;
    public static final int HIDDEN = -1000000;

    private static final int NO_SUCH_SORT = -2;
    private static final int MOST_LAWS = 4;
    private static final int MOST_YEARS = 60;
    private static final int MOST_WINTERS = 9;
    private static final int MOST_TRIED_WINTERS = 20;
    private static final int MOST_SEEDS = 10;
    private static final int MOST_FIND = 100;
    private static final int MOST_PRICE = 99;
    private static final long MEAN_UNIT = 1000000L;

    private final Tape tape = new Tape();
    private final ValleyReader valleyReader = new ValleyReader();
    private final LawReader lawReader = new LawReader();
    private final Law[] laws = new Law[MOST_LAWS];
    private final Law noLaw = Law.bornLessDead();
    private final Folk folk = new Folk();
    private final Folk trial = new Folk();
    private final Folk imageFolk = new Folk();
    private final Diary diary = new Diary();
    private final Buyings buyings = new Buyings();
    private final Seasons seasons = new Seasons();
    private final Moves moves = new Moves();
    private final Odds chances = new Odds(folk, noLaw);
    private int lawCount = 0;
    private int heldLaw = NONE;
    private boolean imaged = false;

    public HeadYear() {
    }

    public int feed(int a, int b, int c, int d, int e) {
        int more = Tape.bytesOf(a) + Tape.bytesOf(b) + Tape.bytesOf(c) + Tape.bytesOf(d) + Tape.bytesOf(e);
        if (tape.length + more > Tape.LONGEST) {
            return NONE;
        }
        tape.append(a);
        tape.append(b);
        tape.append(c);
        tape.append(d);
        tape.append(e);
        return tape.length;
    }

    public boolean end(int n) {
        if (n < 0 || n > tape.length) {
            return false;
        }
        tape.length = n;
        return true;
    }

    public int fault(int sort) {
        if (sort == 0) {
            return valleyReader.faultOf(tape);
        }
        return sort == 1 ? lawReader.faultOf(tape) : NO_SUCH_SORT;
    }

    public int text(int sort) {
        if (sort == 0 && valleyReader.faultOf(tape) == NONE) {
            return tellValley();
        }
        if (sort == 1 && lawCount < MOST_LAWS && lawReader.faultOf(tape) == NONE) {
            return tellLaw();
        }
        return NONE;
    }

    public int level(int level, int what) throws NoSuchElementException {
        Valley valley = folk.valley;
        if (!isLevel(level)) {
            throw new NoSuchElementException();
        }
        switch (what) {
            case 0:
                return valley.huts[level];
            case 1:
                return valley.food[level];
            case 2:
                return valley.danger[level];
            case 3:
                return valley.brow[level];
            case 4:
                return folk.headsAt(level);
            case 5:
                return folk.familiesAt(level);
            case 6:
                return folk.lackAt(level);
            default:
                throw new NoSuchElementException();
        }
    }

    public int family(int family, int what) {
        if (!isFamily(family)) {
            return HIDDEN;
        }
        switch (what) {
            case 0:
                return folk.heads[family];
            case 1:
                return folk.level[family];
            case 2:
                return folk.hut[family];
            case 3:
                return folk.debt[family];
            case 4:
                return folk.want(family);
            case 5:
                return folk.born[family];
            case 6:
                return folk.dead[family];
            case 7:
                return folk.bought[family];
            case 8:
                return folk.hushed[family] ? 1 : 0;
            case 9:
                return folk.spent[family];
            default:
                return HIDDEN;
        }
    }

    public int hut(int level, int hut) {
        return isLevel(level) ? folk.dweller(level, hut) : NONE;
    }

    public boolean law(int law) {
        if (law != NONE && !isLaw(law)) {
            return false;
        }
        heldLaw = law;
        return true;
    }

    public boolean set(int what, int v) {
        if (v < 0) {
            return false;
        }
        if (what == 0 && v <= MOST_FIND) {
            seasons.find = v;
            return true;
        }
        if (what == 1 && v <= 1) {
            seasons.luck = v == 1;
            return true;
        }
        if (what == 2 && v <= MOST_PRICE) {
            buyings.price = v;
            return true;
        }
        return false;
    }

    public boolean seed(long v) {
        folk.x = v;
        return true;
    }

    public int winters(int n) {
        if (!hasValley() || n < 1 || n > MOST_WINTERS || folk.years + n > MOST_YEARS) {
            return NONE;
        }
        Law law = lawOf(heldLaw);
        for (int i = 0; i < n; i++) {
            seasons.winter(folk, law);
            seasons.moveAll(folk);
            diary.write(folk);
        }
        buyings.count = 0;
        return folk.headsOfAll();
    }

    public int spring() {
        if (!hasValley()) {
            return NONE;
        }
        buyings.count = 0;
        return seasons.moveAll(folk);
    }

    public int buy(int family, int levels) {
        if (!lives(family) || levels == 0 || !mayBeBought(levels) || buyings.count >= Buyings.MOST) {
            return NONE;
        }
        if (!mayBeBought(folk.bought[family] + levels)) {
            return NONE;
        }
        int cost = buyings.add(family, levels);
        folk.bought[family] += levels;
        folk.spent[family] += cost;
        return cost;
    }

    public int undo() {
        if (buyings.count < 1) {
            return NONE;
        }
        int last = buyings.count - 1;
        int family = buyings.family[last];
        folk.bought[family] -= buyings.levels[last];
        folk.spent[family] -= buyings.cost[last];
        buyings.count = last;
        return family;
    }

    public boolean hush(int family, boolean is) {
        if (!lives(family) || folk.hushed[family] == is) {
            return false;
        }
        folk.hushed[family] = is;
        return true;
    }

    public int waiting() {
        return hasValley() ? folk.waitingBits() : NONE;
    }

    public int most(int what) {
        if (!hasValley() || !isZeroOrOne(what)) {
            return NONE;
        }
        int bits = moves.mostBits(folk);
        return what == 0 ? Integer.bitCount(bits) : bits;
    }

    public int needs(int family) {
        if (!isFamily(family) || !folk.waits(family)) {
            return NONE;
        }
        return moves.fewestFirst(folk, family);
    }

    public int odds(int family, int n, int level) {
        if (!lives(family) || n < 1 || n > MOST_WINTERS || (level != NONE && !isLevel(level))) {
            return HIDDEN;
        }
        chances.run(family, lawOf(heldLaw), n);
        return (int) (level == NONE ? chances.gone : chances.partsAt(level));
    }

    public int tried(int law, int n, int k, int what) {
        if (!hasValley() || (law != NONE && !isLaw(law)) || !mayBeTried(n, k) || what < 0 || what > 2) {
            return HIDDEN;
        }
        return triedSum(law, n, k, what);
    }

    public int reform(int n, int k) {
        if (!hasValley() || !mayBeTried(n, k)) {
            return HIDDEN;
        }
        int best = NONE;
        int mostHeads = triedSum(NONE, n, k, 0);
        for (int law = 0; law < lawCount; law++) {
            int heads = triedSum(law, n, k, 0);
            if (heads > mostHeads) {
                mostHeads = heads;
                best = law;
            }
        }
        return best;
    }

    public int diary(int family, int year, int what) {
        if (!isFamily(family) || year < 0 || year >= diary.years || !isZeroOrOne(what)) {
            return HIDDEN;
        }
        return what == 0 ? diary.levelIn(year, family) : diary.headsIn(year, family);
    }

    public int climb(int family, int what) {
        if (!isFamily(family) || !isZeroOrOne(what)) {
            return HIDDEN;
        }
        if (diary.years == 0) {
            return what == 0 ? 0 : NONE;
        }
        int best = 0;
        int first = 0;
        for (int year = 0; year < diary.years; year++) {
            int climbed = diary.climbFrom(year, family);
            if (climbed > best) {
                best = climbed;
                first = year;
            }
        }
        return what == 0 ? best : first;
    }

    public int full() {
        return hasValley() ? folk.fullBits() : NONE;
    }

    public int hungry(int what) {
        if (!hasValley() || !isZeroOrOne(what)) {
            return NONE;
        }
        int bits = 0;
        int lacks = 0;
        for (int level = 0; level < folk.valley.levels; level++) {
            int lack = folk.lackAt(level);
            lacks += lack;
            bits |= lack > 0 ? 1 << level : 0;
        }
        return what == 0 ? bits : lacks;
    }

    public int rank(int i) {
        if (!isFamily(i)) {
            return NONE;
        }
        for (int family = 0; family < folk.valley.families; family++) {
            if (folk.familiesAhead(family) == i) {
                return family;
            }
        }
        return NONE;
    }

    public int met(int one, int other, int what) {
        if (!isFamily(one) || !isFamily(other) || one == other || !isZeroOrOne(what)) {
            return HIDDEN;
        }
        int times = 0;
        int latest = NONE;
        for (int year = 0; year < diary.years; year++) {
            int level = diary.levelIn(year, one);
            if (level != NONE && level == diary.levelIn(year, other)) {
                times++;
                latest = year;
            }
        }
        return what == 0 ? times : latest;
    }

    public int leap(int family) {
        if (!isFamily(family)) {
            return HIDDEN;
        }
        int best = 0;
        for (int year = 1; year < diary.years; year++) {
            int from = diary.levelIn(year - 1, family);
            int to = diary.levelIn(year, family);
            if (from != NONE && to != NONE) {
                best = Math.max(best, Math.abs(to - from));
            }
        }
        return best;
    }

    public int leanest(int what) {
        if (diary.years == 0 || !isZeroOrOne(what)) {
            return NONE;
        }
        int first = 0;
        int fewest = diary.headsOfYear(0);
        for (int year = 1; year < diary.years; year++) {
            int heads = diary.headsOfYear(year);
            if (heads < fewest) {
                fewest = heads;
                first = year;
            }
        }
        return what == 0 ? first : fewest;
    }

    public long mean(int family, int n) {
        if (!lives(family) || n < 1 || n > MOST_WINTERS) {
            return HIDDEN;
        }
        chances.run(family, lawOf(heldLaw), n);
        return chances.partsTimesHeads() / MEAN_UNIT;
    }

    public int advice(int family, int n, int k, int what) {
        if (!lives(family) || !mayBeTried(n, k) || !isZeroOrOne(what)) {
            return HIDDEN;
        }
        int best = 0;
        int mostHeads = NONE;
        // From 0 outwards, the lower of two first: so the first of the best is the one that is asked for.
        for (int i = 0; i <= 4 * Buyings.MOST_LEVELS; i++) {
            int more = i % 2 == 1 ? -(i + 1) / 2 : i / 2;
            if (mayBeBought(folk.bought[family] + more)) {
                int heads = ownHeads(family, more, n, k);
                if (heads > mostHeads) {
                    mostHeads = heads;
                    best = more;
                }
            }
        }
        return what == 0 ? best : mostHeads;
    }

    public int image() {
        if (!hasValley()) {
            return NONE;
        }
        imageFolk.copyFrom(folk);
        imaged = true;
        return folk.years;
    }

    public int back() {
        if (!imaged) {
            return NONE;
        }
        folk.copyFrom(imageFolk);
        // No YEAR that the IMAGE has is written again while it stands: its DIARY begins this one.
        diary.years = folk.years;
        buyings.count = 0;
        return folk.years;
    }

    public int count(int what) {
        switch (what) {
            case 0:
                return folk.valley.levels;
            case 1:
                return folk.valley.families;
            case 2:
                return lawCount;
            case 3:
                return tape.length;
            case 4:
                return folk.years;
            case 5:
                return heldLaw;
            case 6:
                return buyings.count;
            case 7:
                return folk.goneFamilies();
            default:
                return HIDDEN;
        }
    }

    private boolean hasValley() {
        return folk.valley.levels > 0;
    }

    private boolean isLevel(int level) {
        return level >= 0 && level < folk.valley.levels;
    }

    private boolean isFamily(int family) {
        return family >= 0 && family < folk.valley.families;
    }

    private boolean lives(int family) {
        return isFamily(family) && folk.heads[family] > 0;
    }

    private boolean isLaw(int law) {
        return law >= 0 && law < lawCount;
    }

    private Law lawOf(int law) {
        return isLaw(law) ? laws[law] : noLaw;
    }

    private static boolean isZeroOrOne(int what) {
        return what == 0 || what == 1;
    }

    private static boolean mayBeBought(int levels) {
        return levels >= -Buyings.MOST_LEVELS && levels <= Buyings.MOST_LEVELS;
    }

    private static boolean mayBeTried(int n, int k) {
        return n >= 1 && n <= MOST_TRIED_WINTERS && k >= 1 && k <= MOST_SEEDS;
    }

    private int tellValley() {
        Valley told = valleyReader.draft;
        // The valley ahead becomes the next draft, so that no telling needs new rows.
        valleyReader.draft = folk.valley;
        folk.settle(told);
        diary.years = 0;
        buyings.count = 0;
        imaged = false;
        tape.length = 0;
        return told.families;
    }

    private int tellLaw() {
        int law = lawCount;
        laws[law] = lawReader.draft;
        lawReader.draft = new Law();
        lawCount = law + 1;
        tape.length = 0;
        return law;
    }

    private int triedSum(int law, int n, int k, int what) {
        int sum = 0;
        for (int seed = 0; seed < k; seed++) {
            startTrial(seed);
            passTrial(law, n);
            if (what == 0) {
                sum += trial.headsOfAll();
            } else {
                sum += what == 1 ? trial.goneFamilies() : Integer.bitCount(trial.waitingBits());
            }
        }
        return sum;
    }

    private int ownHeads(int family, int more, int n, int k) {
        int sum = 0;
        for (int seed = 0; seed < k; seed++) {
            startTrial(seed);
            trial.bought[family] += more;
            passTrial(heldLaw, n);
            sum += trial.heads[family];
        }
        return sum;
    }

    private void startTrial(int seed) {
        trial.copyFrom(folk);
        trial.x = seed;
    }

    private void passTrial(int law, int n) {
        for (int i = 0; i < n; i++) {
            seasons.winter(trial, lawOf(law));
            seasons.moveAll(trial);
        }
    }

    /** The TAPE, and how far a reader has come on it: where reading failed, at is the FAULT. */
    private static final class Tape {
        static final int LONGEST = 160;
        /** No byte of the TAPE is 0, so 0 can stand for its end. */
        static final int END = 0;

        final int[] bytes = new int[LONGEST];
        int length = 0;
        int at = 0;
        int number = 0;

        static int bytesOf(int word) {
            int bytes = 0;
            for (int shift = 24; shift >= 0; shift -= 8) {
                bytes += (word >>> shift & 255) != 0 ? 1 : 0;
            }
            return bytes;
        }

        void append(int word) {
            for (int shift = 24; shift >= 0; shift -= 8) {
                int sign = word >>> shift & 255;
                if (sign != 0 && length < LONGEST) {
                    bytes[length] = sign;
                    length++;
                }
            }
        }

        int next() {
            while (at < length && bytes[at] == ' ') {
                at++;
            }
            return at < length ? bytes[at] : END;
        }

        boolean take(int sign) {
            if (next() != sign) {
                return false;
            }
            at++;
            return true;
        }

        boolean takeNumber(int mostDigits) {
            next();
            int start = at;
            number = 0;
            while (at < start + mostDigits && isDigitHere()) {
                number = number * 10 + bytes[at] - '0';
                at++;
            }
            return at > start && !isDigitHere();
        }

        boolean takeNumberWithin(int mostDigits, int least, int most) {
            if (!takeNumber(mostDigits)) {
                return false;
            }
            if (number < least || number > most) {
                at--;
                return false;
            }
            return true;
        }

        private boolean isDigitHere() {
            return at < length && bytes[at] >= '0' && bytes[at] <= '9';
        }
    }

    /** What a VALLEY's TEXT tells and no year changes. */
    private static final class Valley {
        static final int MOST_LEVELS = 8;
        static final int MOST_FAMILIES = 10;

        final int[] huts = new int[MOST_LEVELS];
        final int[] food = new int[MOST_LEVELS];
        final int[] danger = new int[MOST_LEVELS];
        final int[] brow = new int[MOST_LEVELS];
        final int[] firstHeads = new int[MOST_FAMILIES];
        final int[] firstLevel = new int[MOST_FAMILIES];
        final int[] birth = new int[MOST_FAMILIES];
        final int[] twin = new int[MOST_FAMILIES];
        int levels = 0;
        int families = 0;

        void clear() {
            levels = 0;
            families = 0;
        }

        void addLevel(int[] items) {
            huts[levels] = items[0];
            food[levels] = items[1];
            danger[levels] = items[2];
            brow[levels] = items[3];
            levels++;
        }

        void addFamily(int[] items) {
            firstHeads[families] = items[0];
            firstLevel[families] = items[1];
            birth[families] = items[2];
            twin[families] = items[3];
            families++;
        }

        boolean isWhole() {
            if (levels < 2 || families < 1) {
                return false;
            }
            for (int family = 0; family < families; family++) {
                int level = firstLevel[family];
                if (level >= levels || firstFamiliesAt(level) > huts[level]) {
                    return false;
                }
            }
            return true;
        }

        private int firstFamiliesAt(int level) {
            int there = 0;
            for (int family = 0; family < families; family++) {
                there += firstLevel[family] == level ? 1 : 0;
            }
            return there;
        }
    }

    /** Reads a VALLEY's TEXT into a draft. */
    private static final class ValleyReader {
        private static final int ITEMS = 4;
        private static final int MOST_DIGITS = 3;
        /** Of each letter, first the four of a LEVEL, then the four of a FAMILY. */
        private static final char[] LETTERS = {'h', 'f', 'd', 's', 'p', 'a', 'b', 't'};
        private static final int[] LEAST = {1, 0, 0, 0, 1, 0, 0, 0};
        private static final int[] MOST = {4, 99, 50, 1, 12, 7, 100, 100};
        private static final int[] USUAL = {2, 20, 5, 0, 4, 0, 30, 5};

        private final int[] items = new int[ITEMS];
        Valley draft = new Valley();

        int faultOf(Tape tape) {
            tape.at = 0;
            draft.clear();
            boolean good = readClause(tape);
            for (int i = 0; i < Tape.LONGEST && good && tape.take(';'); i++) {
                good = readClause(tape);
            }
            if (!good || tape.next() != Tape.END) {
                return tape.at;
            }
            return draft.isWhole() ? NONE : tape.length;
        }

        private boolean readClause(Tape tape) {
            int sign = tape.next();
            if (sign == 'l' && draft.levels < Valley.MOST_LEVELS) {
                tape.at++;
                boolean good = readItems(tape, 0);
                draft.addLevel(items);
                return good;
            }
            if (sign == 'k' && draft.families < Valley.MOST_FAMILIES) {
                tape.at++;
                boolean good = readItems(tape, ITEMS);
                draft.addFamily(items);
                return good;
            }
            return false;
        }

        private boolean readItems(Tape tape, int first) {
            for (int item = 0; item < ITEMS; item++) {
                items[item] = USUAL[first + item];
            }
            int seen = 0;
            for (int i = 0; i <= ITEMS; i++) {
                int item = itemOf(tape.next(), first);
                if (item == NONE) {
                    return true;
                }
                if ((seen >> item & 1) == 1) {
                    return false;
                }
                seen |= 1 << item;
                tape.at++;
                if (!tape.takeNumberWithin(MOST_DIGITS, LEAST[first + item], MOST[first + item])) {
                    return false;
                }
                items[item] = tape.number;
            }
            return true;
        }

        private static int itemOf(int sign, int first) {
            for (int item = 0; item < ITEMS; item++) {
                if (LETTERS[first + item] == sign) {
                    return item;
                }
            }
            return NONE;
        }
    }

    /** A LAW as signs in the order in which they are reckoned: each a sign above sixteen bits of value. */
    private static final class Law {
        static final int NUMBER = '0';
        static final int LETTER = 'y';
        static final int TEST = '?';
        static final int ANSWER = ';';
        static final int LETTER_B = 0;
        static final int LETTER_D = 1;
        static final int LETTER_P = 2;
        static final int LETTER_H = 3;
        static final int LETTER_O = 4;
        static final int LETTER_Y = 5;
        static final int LETTER_COUNT = 6;
        private static final int SHIFT = 16;
        private static final int LOW = 65535;
        /** Six within one another keep eighteen numbers open at most. */
        private static final int DEEPEST = 32;
        private static final int FARTHEST = 1000000;

        private final int[] code = new int[Tape.LONGEST];
        private final int[] stack = new int[DEEPEST];
        int length = 0;

        /** What stands for a LAW while none holds. */
        static Law bornLessDead() {
            Law law = new Law();
            law.add(LETTER, LETTER_B);
            law.add(LETTER, LETTER_D);
            law.add('-', 0);
            law.add(ANSWER, 0);
            return law;
        }

        void add(int sign, int value) {
            if (length < code.length) {
                code[length] = sign << SHIFT | value;
                length++;
            }
        }

        void aimHere(int place) {
            if (place >= 0 && place < length) {
                code[place] = TEST << SHIFT | length;
            }
        }

        int worth(int[] letters) {
            int top = 0;
            for (int i = 0; i < length; i++) {
                int sign = code[i] >> SHIFT;
                int value = code[i] & LOW;
                // The reader writes no code that breaks this; it keeps every index below within its row.
                if (top < takenBy(sign) || top >= DEEPEST || (sign == LETTER && value >= letters.length)) {
                    return 0;
                }
                if (sign == NUMBER || sign == LETTER) {
                    stack[top] = sign == NUMBER ? value : letters[value];
                    top++;
                } else if (sign == ANSWER) {
                    return stack[top - 1];
                } else if (sign == TEST) {
                    top--;
                    i = stack[top] == 0 ? Math.max(i, value - 1) : i;
                } else if (sign == '!') {
                    stack[top - 1] = 1 - stack[top - 1];
                } else {
                    top--;
                    stack[top - 1] = held(joined(sign, stack[top - 1], stack[top]), FARTHEST);
                }
            }
            return 0;
        }

        private static int takenBy(int sign) {
            switch (sign) {
                case NUMBER:
                case LETTER:
                    return 0;
                case ANSWER:
                case TEST:
                case '!':
                    return 1;
                default:
                    return 2;
            }
        }

        private static long joined(int sign, long a, long b) {
            switch (sign) {
                case '+':
                    return a + b;
                case '-':
                    return a - b;
                case '*':
                    return a * b;
                case '/':
                    return b == 0 ? 0 : a / b;
                case '=':
                    return a == b ? 1 : 0;
                case '<':
                    return a < b ? 1 : 0;
                case '>':
                    return a > b ? 1 : 0;
                case '&':
                    return a != 0 && b != 0 ? 1 : 0;
                default:
                    return a != 0 || b != 0 ? 1 : 0;
            }
        }

        static int held(long number, int farthest) {
            if (number > farthest) {
                return farthest;
            }
            return number < -farthest ? -farthest : (int) number;
        }
    }

    /** Reads a LAW's TEXT into a draft. */
    private static final class LawReader {
        private static final int MOST_DIGITS = 4;
        private static final int MOST_WITHIN = 6;
        /** The sorts of chains: parts of one sort with signs of that sort between. */
        private static final int CONDITION = 0;
        private static final int TRUTH = 1;
        private static final int SUM = 2;
        private static final int TERM = 3;
        /** In the order of the numbers that Law has for them. */
        private static final char[] LETTERS = {'b', 'd', 'p', 'h', 'o', 'y'};

        Law draft = new Law();

        int faultOf(Tape tape) {
            tape.at = 0;
            draft.length = 0;
            boolean good = readClause(tape);
            for (int i = 0; i < Tape.LONGEST && good && tape.take(';'); i++) {
                good = readClause(tape);
            }
            return good && tape.next() == Tape.END ? NONE : tape.at;
        }

        private boolean readClause(Tape tape) {
            if (!tape.take('y') || !tape.take(':')) {
                return false;
            }
            int sign = tape.next();
            boolean begun = sign != '!' && sign != '(';
            if (begun && !readChain(tape, SUM, 0, false)) {
                return false;
            }
            if (begun && !isComparison(tape.next())) {
                draft.add(Law.ANSWER, 0);
                return true;
            }
            if (!readChain(tape, CONDITION, 0, begun) || !tape.take('?')) {
                return false;
            }
            int test = draft.length;
            draft.add(Law.TEST, 0);
            if (!readChain(tape, SUM, 0, false)) {
                return false;
            }
            draft.add(Law.ANSWER, 0);
            draft.aimHere(test);
            return true;
        }

        /** Begun: the SUM with which a CONDITION begins is read already. Within: how many ( [ ! stand open. */
        private boolean readChain(Tape tape, int sort, int within, boolean begun) {
            int sign = Tape.END;
            for (int i = 0; i < Tape.LONGEST; i++) {
                boolean partBegun = begun && i == 0;
                boolean good;
                if (sort == TRUTH) {
                    good = readUnit(tape, within, partBegun);
                } else if (sort == TERM) {
                    good = readAtom(tape, within);
                } else {
                    good = readChain(tape, sort + 1, within, partBegun);
                }
                if (!good) {
                    return false;
                }
                if (i > 0) {
                    draft.add(sign, 0);
                }
                sign = tape.next();
                if (chainOf(sign) != sort) {
                    return true;
                }
                tape.at++;
            }
            return false;
        }

        private boolean readUnit(Tape tape, int within, boolean begun) {
            int sign = begun ? Tape.END : tape.next();
            if (sign == '!' || sign == '(') {
                return readNested(tape, sign, within);
            }
            if (!begun && !readChain(tape, SUM, within, false)) {
                return false;
            }
            int comparison = tape.next();
            if (!isComparison(comparison)) {
                return false;
            }
            tape.at++;
            if (!readChain(tape, SUM, within, false)) {
                return false;
            }
            draft.add(comparison, 0);
            return true;
        }

        private boolean readNested(Tape tape, int sign, int within) {
            if (within >= MOST_WITHIN) {
                return false;
            }
            tape.at++;
            if (sign == '!') {
                boolean good = readUnit(tape, within + 1, false);
                draft.add('!', 0);
                return good;
            }
            if (sign == '(') {
                return readChain(tape, CONDITION, within + 1, false) && tape.take(')');
            }
            return readChain(tape, SUM, within + 1, false) && tape.take(']');
        }

        private boolean readAtom(Tape tape, int within) {
            int sign = tape.next();
            if (sign == '[') {
                return readNested(tape, sign, within);
            }
            for (int letter = 0; letter < LETTERS.length; letter++) {
                if (LETTERS[letter] == sign) {
                    tape.at++;
                    draft.add(Law.LETTER, letter);
                    return true;
                }
            }
            if (!tape.takeNumber(MOST_DIGITS)) {
                return false;
            }
            draft.add(Law.NUMBER, tape.number);
            return true;
        }

        private static boolean isComparison(int sign) {
            return sign == '=' || sign == '<' || sign == '>';
        }

        private static int chainOf(int sign) {
            switch (sign) {
                case '|':
                    return CONDITION;
                case '&':
                    return TRUTH;
                case '+':
                case '-':
                    return SUM;
                case '*':
                case '/':
                    return TERM;
                default:
                    return NONE;
            }
        }
    }

    /** All that years change: the FAMILIES, the YEAR and the draws. */
    private static final class Folk {
        static final int MOST_HEADS = 20;
        private static final long FACTOR = 6364136223846793005L;
        private static final long MORE = 1442695040888963407L;
        private static final int DRAW_SHIFT = 33;

        final int[] heads = new int[Valley.MOST_FAMILIES];
        final int[] level = new int[Valley.MOST_FAMILIES];
        final int[] hut = new int[Valley.MOST_FAMILIES];
        final int[] debt = new int[Valley.MOST_FAMILIES];
        final int[] born = new int[Valley.MOST_FAMILIES];
        final int[] dead = new int[Valley.MOST_FAMILIES];
        final int[] bought = new int[Valley.MOST_FAMILIES];
        final int[] spent = new int[Valley.MOST_FAMILIES];
        final boolean[] hushed = new boolean[Valley.MOST_FAMILIES];
        Valley valley = new Valley();
        long x = 0;
        int years = 0;

        void settle(Valley told) {
            valley = told;
            years = 0;
            for (int family = 0; family < told.families; family++) {
                empty(family);
                born[family] = 0;
                dead[family] = 0;
                spent[family] = 0;
            }
            for (int family = 0; family < told.families; family++) {
                int home = told.firstLevel[family];
                heads[family] = told.firstHeads[family];
                hut[family] = emptyHut(home, 0);
                level[family] = home;
            }
        }

        void copyFrom(Folk other) {
            valley = other.valley;
            x = other.x;
            years = other.years;
            for (int family = 0; family < valley.families; family++) {
                heads[family] = other.heads[family];
                level[family] = other.level[family];
                hut[family] = other.hut[family];
                debt[family] = other.debt[family];
                born[family] = other.born[family];
                dead[family] = other.dead[family];
                bought[family] = other.bought[family];
                spent[family] = other.spent[family];
                hushed[family] = other.hushed[family];
            }
        }

        /** What a GONE FAMILY has; BORN, DEAD and what it spent are still told of it. */
        void empty(int family) {
            heads[family] = 0;
            level[family] = NONE;
            hut[family] = NONE;
            debt[family] = 0;
            bought[family] = 0;
            hushed[family] = false;
        }

        void move(int family, int toLevel, int toHut) {
            level[family] = toLevel;
            hut[family] = toHut;
            debt[family] = 0;
        }

        int draw(int n) {
            x = x * FACTOR + MORE;
            return n > 0 ? (int) ((x >>> DRAW_SHIFT) % n) : 0;
        }

        int headsAt(int there) {
            int sum = 0;
            for (int family = 0; family < valley.families; family++) {
                sum += level[family] == there ? heads[family] : 0;
            }
            return sum;
        }

        int familiesAt(int there) {
            int sum = 0;
            for (int family = 0; family < valley.families; family++) {
                sum += level[family] == there ? 1 : 0;
            }
            return sum;
        }

        int lackAt(int there) {
            return Math.max(0, headsAt(there) - valley.food[there]);
        }

        int headsOfAll() {
            int sum = 0;
            for (int family = 0; family < valley.families; family++) {
                sum += heads[family];
            }
            return sum;
        }

        int goneFamilies() {
            return familiesAt(NONE);
        }

        int familiesAhead(int family) {
            int ahead = 0;
            for (int other = 0; other < valley.families; other++) {
                boolean evenButLower = heads[other] == heads[family] && other < family;
                ahead += heads[other] > heads[family] || evenButLower ? 1 : 0;
            }
            return ahead;
        }

        int dweller(int there, int inHut) {
            for (int family = 0; family < valley.families; family++) {
                if (level[family] == there && hut[family] == inHut) {
                    return family;
                }
            }
            return NONE;
        }

        int emptyHuts(int there) {
            return valley.huts[there] - familiesAt(there);
        }

        /** The empty HUT of a LEVEL ahead of which so many are empty. */
        int emptyHut(int there, int emptyAhead) {
            int left = emptyAhead;
            for (int inHut = 0; inHut < valley.huts[there]; inHut++) {
                if (dweller(there, inHut) == NONE) {
                    if (left == 0) {
                        return inHut;
                    }
                    left--;
                }
            }
            return NONE;
        }

        int want(int family) {
            int here = level[family];
            if (here == NONE || valley.brow[here] == 1) {
                return here;
            }
            return Math.min(valley.levels - 1, Math.max(0, here + debt[family]));
        }

        boolean waits(int family) {
            return want(family) != level[family];
        }

        int waitingBits() {
            int bits = 0;
            for (int family = 0; family < valley.families; family++) {
                bits |= waits(family) ? 1 << family : 0;
            }
            return bits;
        }

        int fullBits() {
            int bits = 0;
            for (int there = 0; there < valley.levels; there++) {
                bits |= emptyHuts(there) > 0 ? 0 : 1 << there;
            }
            return bits;
        }
    }

    /** Of each YEAR each FAMILY's LEVEL and HEADS behind it, a row of FAMILIES for each YEAR. */
    private static final class Diary {
        private static final int ROW = Valley.MOST_FAMILIES;

        private final int[] level = new int[MOST_YEARS * ROW];
        private final int[] heads = new int[MOST_YEARS * ROW];
        int years = 0;

        void write(Folk folk) {
            if (years >= MOST_YEARS) {
                return;
            }
            for (int family = 0; family < ROW; family++) {
                boolean is = family < folk.valley.families;
                level[years * ROW + family] = is ? folk.level[family] : NONE;
                heads[years * ROW + family] = is ? folk.heads[family] : 0;
            }
            years++;
        }

        int levelIn(int year, int family) {
            return level[year * ROW + family];
        }

        int headsIn(int year, int family) {
            return heads[year * ROW + family];
        }

        int headsOfYear(int year) {
            int sum = 0;
            for (int family = 0; family < ROW; family++) {
                sum += headsIn(year, family);
            }
            return sum;
        }

        int climbFrom(int year, int family) {
            int from = levelIn(year, family);
            int best = 0;
            for (int later = year + 1; later < years && from != NONE; later++) {
                int to = levelIn(later, family);
                best = to == NONE ? best : Math.max(best, to - from);
            }
            return best;
        }
    }

    /** What was BOUGHT since the latest SPRING, so that it can be UNDONE, and the PRICE. */
    private static final class Buyings {
        static final int MOST = 40;
        static final int MOST_LEVELS = 3;

        final int[] family = new int[MOST];
        final int[] levels = new int[MOST];
        final int[] cost = new int[MOST];
        int count = 0;
        int price = 10;

        int add(int buyer, int more) {
            int costs = price * Math.abs(more);
            if (count < MOST) {
                family[count] = buyer;
                levels[count] = more;
                cost[count] = costs;
                count++;
            }
            return costs;
        }
    }

    /** How WINTERS and SPRINGS go. */
    private static final class Seasons {
        static final int FARTHEST_DEBT = 9;
        private static final int HUNDRED = 100;

        private final int[] lacks = new int[Valley.MOST_LEVELS];
        private final int[] letters = new int[Law.LETTER_COUNT];
        private final int[] ring = new int[Valley.MOST_FAMILIES];
        int find = 50;
        boolean luck = false;

        void winter(Folk folk, Law law) {
            Valley valley = folk.valley;
            for (int level = 0; level < valley.levels; level++) {
                lacks[level] = folk.lackAt(level);
            }
            for (int family = 0; family < valley.families; family++) {
                if (folk.heads[family] > 0) {
                    winterOf(folk, law, family);
                }
            }
            folk.years++;
        }

        private void winterOf(Folk folk, Law law, int family) {
            int born = drawBorn(folk, family);
            int dead = drawDead(folk, family);
            int counted = drawCounted(folk, family, born);
            int heads = Math.min(Folk.MOST_HEADS, folk.heads[family] - dead + born);
            folk.born[family] += born;
            folk.dead[family] += dead;
            folk.heads[family] = heads;
            if (heads == 0) {
                folk.empty(family);
                return;
            }
            letters[Law.LETTER_B] = counted;
            letters[Law.LETTER_D] = dead;
            letters[Law.LETTER_P] = heads;
            letters[Law.LETTER_H] = folk.level[family];
            letters[Law.LETTER_O] = folk.debt[family];
            letters[Law.LETTER_Y] = folk.years + 1;
            folk.debt[family] = Law.held(folk.debt[family] + law.worth(letters), FARTHEST_DEBT);
        }

        private static int drawBorn(Folk folk, int family) {
            if (folk.draw(HUNDRED) >= folk.valley.birth[family]) {
                return 0;
            }
            return folk.draw(HUNDRED) < folk.valley.twin[family] ? 2 : 1;
        }

        private int drawDead(Folk folk, int family) {
            int level = folk.level[family];
            int danger = folk.valley.danger[level] + lacks[level];
            int dead = 0;
            for (int head = 0; head < folk.heads[family]; head++) {
                dead += folk.draw(HUNDRED) < danger ? 1 : 0;
            }
            return dead;
        }

        private int drawCounted(Folk folk, int family, int born) {
            if (!folk.hushed[family] || born == 0) {
                return born;
            }
            return folk.draw(HUNDRED) < find ? 2 * born : 0;
        }

        /** A SPRING: how many moved. */
        int moveAll(Folk folk) {
            settleDebts(folk);
            int moved = 0;
            // Who has moved wants no more, so there are no more turns than families.
            for (int i = 0; i < Valley.MOST_FAMILIES; i++) {
                int now = moveIntoEmpty(folk);
                if (now == 0) {
                    now = changeRing(folk);
                }
                if (now == 0) {
                    break;
                }
                moved += now;
            }
            return moved;
        }

        /** From here on till the SPRING ends each WANT is LEVEL and DEBT, and who has no DEBT stays. */
        private static void settleDebts(Folk folk) {
            for (int family = 0; family < folk.valley.families; family++) {
                folk.debt[family] += folk.bought[family];
                folk.bought[family] = 0;
                folk.debt[family] = folk.want(family) - folk.level[family];
            }
        }

        private int moveIntoEmpty(Folk folk) {
            for (int family = 0; family < folk.valley.families; family++) {
                int to = folk.level[family] + folk.debt[family];
                int empty = folk.debt[family] == 0 ? 0 : folk.emptyHuts(to);
                if (empty > 0) {
                    folk.move(family, to, folk.emptyHut(to, luck ? folk.draw(empty) : 0));
                    return 1;
                }
            }
            return 0;
        }

        private int changeRing(Folk folk) {
            for (int family = 0; family < folk.valley.families; family++) {
                int twice = folk.debt[family] == 0 ? NONE : metTwice(folk, family);
                if (twice != NONE) {
                    return changeHuts(folk, twice);
                }
            }
            return 0;
        }

        /** The FAMILY that one comes to twice from this one on; NONE if the way ends ahead of that. */
        private static int metTwice(Folk folk, int start) {
            int seen = 0;
            int family = start;
            for (int i = 0; i <= Valley.MOST_FAMILIES && family != NONE; i++) {
                if ((seen >> family & 1) == 1) {
                    return family;
                }
                seen |= 1 << family;
                family = nextOf(folk, family);
            }
            return NONE;
        }

        private static int nextOf(Folk folk, int family) {
            int there = folk.level[family] + folk.debt[family];
            for (int other = 0; other < folk.valley.families; other++) {
                if (folk.level[other] == there && folk.debt[other] != 0) {
                    return other;
                }
            }
            return NONE;
        }

        private int changeHuts(Folk folk, int first) {
            int size = 0;
            int family = first;
            // The whole ring is found ahead of the first move, as each move changes who wants.
            do {
                ring[size] = family;
                size++;
                family = nextOf(folk, family);
            } while (size < ring.length && family != first && family != NONE);
            int firstLevel = folk.level[first];
            int firstHut = folk.hut[first];
            for (int i = 0; i + 1 < size; i++) {
                folk.move(ring[i], folk.level[ring[i + 1]], folk.hut[ring[i + 1]]);
            }
            folk.move(ring[size - 1], firstLevel, firstHut);
            return size;
        }
    }

    /** Which FAMILIES that are WAITING could go. */
    private static final class Moves {
        private final int[] there = new int[Valley.MOST_LEVELS];

        int mostBits(Folk folk) {
            int waiting = folk.waitingBits();
            int best = 0;
            for (int bits = 1; bits <= waiting; bits++) {
                boolean more = (bits & ~waiting) == 0 && Integer.bitCount(bits) > Integer.bitCount(best);
                if (more && isRoomFor(folk, bits)) {
                    best = bits;
                }
            }
            return best;
        }

        private boolean isRoomFor(Folk folk, int going) {
            Arrays.fill(there, 0);
            for (int family = 0; family < folk.valley.families; family++) {
                int level = (going >> family & 1) == 1 ? folk.want(family) : folk.level[family];
                if (level != NONE) {
                    there[level]++;
                }
            }
            for (int level = 0; level < folk.valley.levels; level++) {
                if (there[level] > folk.valley.huts[level]) {
                    return false;
                }
            }
            return true;
        }

        int fewestFirst(Folk folk, int family) {
            int free = ~folk.fullBits() | 1 << folk.level[family];
            int reached = 1 << folk.want(family);
            for (int others = 0; others < Valley.MOST_LEVELS; others++) {
                if ((reached & free) != 0) {
                    return others;
                }
                reached |= wantedFrom(folk, reached);
            }
            return NONE;
        }

        private static int wantedFrom(Folk folk, int levels) {
            int wanted = 0;
            for (int other = 0; other < folk.valley.families; other++) {
                if (folk.waits(other) && (levels >> folk.level[other] & 1) == 1) {
                    wanted |= 1 << folk.want(other);
                }
            }
            return wanted;
        }
    }

    /** The parts of a FAMILY's states (LEVEL, HEADS) after some WINTERS, a row of HEADS for each LEVEL. */
    private static final class Odds {
        private static final long ALL = 1000000000L;
        private static final int HUNDRED = 100;
        private static final int ROW = Folk.MOST_HEADS + 1;

        private final int[] letters = new int[Law.LETTER_COUNT];
        private final long[] dying = new long[ROW + 1];
        private final Folk folk;
        private long[] parts = new long[Valley.MOST_LEVELS * ROW];
        private long[] after = new long[Valley.MOST_LEVELS * ROW];
        private Law law;
        long gone = 0;

        Odds(Folk people, Law first) {
            folk = people;
            law = first;
        }

        void run(int family, Law holding, int winters) {
            law = holding;
            gone = 0;
            Arrays.fill(parts, 0);
            parts[folk.level[family] * ROW + folk.heads[family]] = ALL;
            for (int i = 1; i <= winters; i++) {
                letters[Law.LETTER_Y] = folk.years + i;
                pass(folk.valley.birth[family], folk.valley.twin[family]);
            }
        }

        long partsAt(int level) {
            long sum = 0;
            for (int heads = 1; heads < ROW; heads++) {
                sum += parts[level * ROW + heads];
            }
            return sum;
        }

        long partsTimesHeads() {
            long sum = 0;
            for (int state = 0; state < parts.length; state++) {
                sum += parts[state] * (state % ROW);
            }
            return sum;
        }

        private void pass(int birth, int twin) {
            Arrays.fill(after, 0);
            for (int level = 0; level < folk.valley.levels; level++) {
                for (int heads = 1; heads < ROW; heads++) {
                    long all = parts[level * ROW + heads];
                    long births = all * birth / HUNDRED;
                    long twins = births * twin / HUNDRED;
                    spread(level, heads, 0, all - births);
                    spread(level, heads, 1, births - twins);
                    spread(level, heads, 2, twins);
                }
            }
            long[] old = parts;
            parts = after;
            after = old;
        }

        private void spread(int level, int heads, int born, long share) {
            if (share == 0) {
                return;
            }
            Arrays.fill(dying, 0);
            dying[0] = share;
            for (int head = 0; head < heads; head++) {
                // Downwards, so that the parts in which this head dies are not asked for it again.
                for (int dead = head; dead >= 0; dead--) {
                    long die = dying[dead] * folk.valley.danger[level] / HUNDRED;
                    dying[dead] -= die;
                    dying[dead + 1] += die;
                }
            }
            for (int dead = 0; dead <= heads; dead++) {
                land(level, Math.min(Folk.MOST_HEADS, heads - dead + born), born, dead);
            }
        }

        private void land(int level, int heads, int born, int dead) {
            if (heads == 0) {
                gone += dying[dead];
                return;
            }
            int to = level;
            if (folk.valley.brow[level] == 0) {
                letters[Law.LETTER_B] = born;
                letters[Law.LETTER_D] = dead;
                letters[Law.LETTER_P] = heads;
                letters[Law.LETTER_H] = level;
                letters[Law.LETTER_O] = 0;
                int debt = Law.held(law.worth(letters), Seasons.FARTHEST_DEBT);
                to = Math.min(folk.valley.levels - 1, Math.max(0, level + debt));
            }
            after[to * ROW + heads] += dying[dead];
        }
    }
}
