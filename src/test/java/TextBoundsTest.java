/** Promises 2 to 5, 9 and the Terms' first part: each bound that a VALLEY's or a LAW's TEXT has, from both sides. */
final class TextBoundsTest {
    public static void main(String[] args) {
        bytesOfZeroAreLeftOut();
        highestFirst();
        hundredAndSixtyBytes();
        firstBytesAlone();
        twoToEightLevels();
        oneToTenFamilies();
        onceAtMostInAClause();
        itemsWithinTheirBounds();
        usualItems();
        familyAtALevelThatIsTold();
        asManyFamiliesAsHuts();
        blanks();
        fourLaws();
        digitsOfALaw();
        sixWithin();
        lawEnds();
        textIsRefused();
        Check.finish();
    }

    private static void valley(String text, int want) {
        Check.due("the fault of the valley '" + text + "'", Check.fault(0, text), want);
    }

    private static void law(String text, int want) {
        Check.due("the fault of the law '" + text + "'", Check.fault(1, text), want);
    }

    /** "Twenty bytes more come to the TAPE (.. bytes of 0 are left out)": each byte but 0 counts, each bit makes one. */
    private static void bytesOfZeroAreLeftOut() {
        for (int word = 0; word < 5; word++) {
            for (int bit = 0; bit < 32; bit++) {
                int[] w = new int[5];
                w[word] = 1 << bit;
                HeadYear x = new HeadYear();
                Check.due("bit " + bit + " of number " + word, x.feed(w[0], w[1], w[2], w[3], w[4]), 1);
                Check.due("it is on the TAPE", x.count(3), 1);
            }
        }
        for (int b = 0; b < 256; b++) {
            HeadYear x = new HeadYear();
            Check.due("byte " + b, x.feed(b << 24, b << 16, b << 8, b, b << 24 | b), b == 0 ? 0 : 6);
        }
        HeadYear x = new HeadYear();
        Check.due("twenty bytes", x.feed(-1, -1, -1, -1, -1), 20);
        Check.due("twenty bytes of 1", x.feed(0x01010101, 0x01010101, 0x01010101, 0x01010101, 0x01010101), 40);
        Check.due("twenty bytes of 0", x.feed(0, 0, 0, 0, 0), 40);
    }

    /** "of each number the highest first": a sign out of place at each of the twenty places is the FAULT there. */
    private static void highestFirst() {
        for (int at = 0; at < 20; at++) {
            byte[] signs = "l h1 ;l h2 ;k p3 a1 ".getBytes();
            signs[at] = '#';
            HeadYear x = new HeadYear();
            int[] w = new int[5];
            for (int i = 0; i < 20; i++) {
                w[i / 4] |= signs[i] << 24 - i % 4 * 8;
            }
            Check.due("twenty bytes", x.feed(w[0], w[1], w[2], w[3], w[4]), 20);
            Check.due("the one at " + at, x.fault(0), at);
        }
    }

    /** "NONE: more than 160." */
    private static void hundredAndSixtyBytes() {
        for (int ahead = 139; ahead <= 160; ahead++) {
            for (int more = 0; more <= 20; more++) {
                HeadYear x = new HeadYear();
                Check.feed(x, " ".repeat(ahead));
                int[] w = Check.words(" ".repeat(more), 0);
                boolean fits = ahead + more <= 160;
                String what = more + " behind " + ahead;
                Check.due(what, x.feed(w[0], w[1], w[2], w[3], w[4]), fits ? ahead + more : -1);
                Check.due(what + ": how many then", x.count(3), fits ? ahead + more : ahead);
            }
        }
        for (int word = 0; word < 5; word++) {
            for (int bit = 0; bit < 32; bit++) {
                int[] w = new int[5];
                w[word] = 1 << bit;
                HeadYear x = new HeadYear();
                Check.feed(x, " ".repeat(160));
                Check.due("a 161st byte of one bit", x.feed(w[0], w[1], w[2], w[3], w[4]), -1);
                x.end(159);
                Check.due("a 160th byte of one bit", x.feed(w[0], w[1], w[2], w[3], w[4]), 160);
            }
        }
        HeadYear x = new HeadYear();
        Check.feed(x, " ".repeat(159));
        Check.due("one among nineteen of 0", x.feed(0, 0, 'l' << 8, 0, 0), 160);
        Check.due("the 160th byte is read", x.fault(0), 160);
        x.end(159);
        x.feed(0, 'x', 0, 0, 0);
        Check.due("the 160th byte is the FAULT", x.fault(0), 159);
        Check.due("of a law, too", x.fault(1), 159);
    }

    /** "The TAPE has its first n bytes alone. False: n." */
    private static void firstBytesAlone() {
        String text = " ".repeat(155) + "l;l;k";
        for (int n = 0; n <= 161; n++) {
            HeadYear x = new HeadYear();
            Check.feed(x, text);
            Check.due("end(" + n + ") of 160", x.end(n), n <= 160);
            Check.due("its bytes", x.count(3), Math.min(n, 160));
            Check.due("its FAULT", x.fault(0), n < 160 ? n : -1);
            Check.due("end of one more", x.end(n + 1), false);
        }
        HeadYear x = new HeadYear();
        Check.feed(x, "l;l;k");
        x.end(3);
        Check.due("what was cut off is gone", x.end(4), false);
        Check.due("end of as many as there are", x.end(3), true);
    }

    private static String many(String clause, int n) {
        return (clause + ";").repeat(n);
    }

    /** "l (a LEVEL; 2 .. 8 ..)", "(the length .. with fewer than two LEVELS)", "a ninth l .. at it". */
    private static void twoToEightLevels() {
        valley("k", 1);
        for (int n = 1; n <= 8; n++) {
            String text = many("l", n) + "k";
            valley(text, n < 2 ? text.length() : -1);
            valley("k;" + text.substring(0, text.length() - 2), n < 2 ? 3 : -1);
            if (n >= 2) {
                HeadYear x = Check.valley(text);
                Check.due("levels", x.count(0), n);
                Check.due("the highest", Check.level(x, n - 1, 0), 2);
                Check.due("none above", Check.level(x, n, 0), Check.THROWS);
            }
        }
        valley(many("l", 8) + "l", 16);
        valley(many("l", 8) + "l;k", 16);
        valley(many("l", 8) + "k;l", 18);
        valley("k;" + many("l", 8) + " l", 19);
        valley(many("l", 8) + "k;k;lx", 20);
        valley(many("l", 7) + "k;k;l;k a7", -1);
        valley(many("l", 8), 16);
    }

    /** "k (a FAMILY; 1 .. 10)", "without a FAMILY", "an eleventh k .. at it". */
    private static void oneToTenFamilies() {
        for (int n = 0; n <= 10; n++) {
            StringBuilder text = new StringBuilder("lh4;lh4;lh4");
            for (int i = 0; i < n; i++) {
                text.append(";ka").append(i / 4);
            }
            valley(text.toString(), n == 0 ? text.length() : -1);
            if (n > 0) {
                HeadYear x = Check.valley(text.toString());
                Check.due("families", x.count(1), n);
                Check.due("the last", x.family(n - 1, 0), 4);
                Check.due("none behind it", x.family(n, 0), HeadYear.HIDDEN);
            }
        }
        String ten = "lh4;lh4;lh4;" + many("k", 4) + many("ka1", 4) + many("ka2", 2);
        valley(ten + "ka2", ten.length());
        valley(ten + "  k", ten.length() + 2);
        valley(ten + "l", -1);
        valley(many("k", 10) + "k", 20);
        valley(many("k", 10) + "l;l", 23);
        valley(many("k", 10) + "l;k", 22);
    }

    /** "a letter, each once at most in a CLAUSE": at the letter that was there; another CLAUSE has its own. */
    private static void onceAtMostInAClause() {
        String level = "h1f2d3s0";
        String family = "p1a1b2t3";
        for (int i = 0; i < 4; i++) {
            valley("l" + level + level.charAt(2 * i) + "1;l;k", 9);
            valley("l;l;k" + family + family.charAt(2 * i) + "1", 13);
            valley("l" + level.charAt(2 * i) + "1 " + level.charAt(2 * i) + "1;l;k", 4);
            valley("l;l;k" + family.charAt(2 * i) + "1 " + family.charAt(2 * i) + "1", 8);
        }
        valley("l" + level + ";l" + level + ";k" + family + ";l;k" + family.replace("a1", "a2"), -1);
    }

    /** Each number from both sides of its bounds, at its last digit; "one to three digits", "a fourth digit itself". */
    private static void itemsWithinTheirBounds() {
        String[] items = {"lh", "lf", "ld", "ls", "kp", "ka", "kb", "kt"};
        int[] least = {1, 0, 0, 0, 1, 0, 0, 0};
        int[] most = {4, 99, 50, 1, 12, 7, 100, 100};
        String ahead = many("l", 7);
        for (int i = 0; i < items.length; i++) {
            String behind = i < 4 ? ";k" : ";l";
            for (int n = 0; n <= 999; n++) {
                boolean within = n >= least[i] && n <= most[i];
                String text = ahead + items[i] + n;
                valley(text + behind, within ? -1 : text.length() - 1);
                valley(text, within ? i < 4 || i == 5 && n > 6 ? text.length() : -1 : text.length() - 1);
                if (n < 100) {
                    String zeros = ahead + items[i] + (n < 10 ? "00" : "0") + n;
                    valley(zeros + behind, within ? -1 : zeros.length() - 1);
                    valley(zeros + "0" + behind, zeros.length());
                }
            }
            for (String digits : new String[] {"0000", "0001", "1000", "9999", "12345", "00000001"}) {
                valley(ahead + items[i] + digits + behind, ahead.length() + items[i].length() + 3);
            }
            valley(ahead + items[i], ahead.length() + items[i].length());
            valley(ahead + items[i] + behind, ahead.length() + items[i].length());
            valley(ahead + items[i] + " 1 1" + behind, ahead.length() + items[i].length() + 3);
        }
    }

    /** "h HUTS (.. 2 without), f FOOD (..; 20), d DANGER (..; 5), s (..; 0)", "p (..; 4), a (..; 0), b (..; 30), t (..; 5)". */
    private static void usualItems() {
        HeadYear x = Check.valley("l;l h2 f20 d5 s0;k;k a1 p4 b30 t5");
        for (int what = 0; what < 7; what++) {
            Check.due("as told: level, " + what, Check.level(x, 0, what), Check.level(x, 1, what));
        }
        int[] usual = {2, 20, 5, 0};
        for (int what = 0; what < 4; what++) {
            Check.due("usual: level, " + what, Check.level(x, 0, what), usual[what]);
        }
        Check.due("usual HEADS", x.family(0, 0), 4);
        Check.due("usual LEVEL", x.family(0, 1), 0);
        for (int seed = 0; seed < 2000; seed++) {
            int[] draws = Check.draws(seed, 2);
            // Where a BIRTH of 29, 31 or a TWIN of 4, 6 would tell otherwise.
            if (draws[0] == 29 || draws[0] == 30 || draws[0] < 29 && (draws[1] == 4 || draws[1] == 5)) {
                x = Check.valley("l;l;k");
                x.seed(seed);
                x.winters(1);
                int born = draws[0] < 30 ? (draws[1] < 5 ? 2 : 1) : 0;
                Check.due("usual BIRTH, TWIN by seed " + seed, x.family(0, 5), born);
            }
        }
    }

    /** "with a FAMILY at a LEVEL that is not told". */
    private static void familyAtALevelThatIsTold() {
        for (int levels = 2; levels <= 8; levels++) {
            for (int level = 0; level <= 7; level++) {
                String text = many("l", levels) + "ka" + level;
                valley(text, level < levels ? -1 : text.length());
                valley("ka" + level + ";" + text.substring(0, 2 * levels - 1), level < levels ? -1 : 2 * levels + 3);
            }
        }
    }

    /** "or with more FAMILIES at one than it has HUTS". */
    private static void asManyFamiliesAsHuts() {
        for (int huts = 1; huts <= 4; huts++) {
            for (int level = 0; level < 3; level++) {
                String[] levels = {"lh1", "lh1", "lh1"};
                levels[level] = "lh" + huts;
                String text = String.join(";", levels) + (";ka" + level).repeat(huts);
                valley(text, -1);
                valley(text + ";ka" + level, text.length() + 4);
                valley(text + ";ka" + level + "  ", text.length() + 6);
                HeadYear x = Check.valley(text);
                for (int hut = 0; hut < huts; hut++) {
                    Check.due("by numbers, each in the lowest that is empty", x.hut(level, hut), hut);
                }
                Check.due("no more huts", x.hut(level, huts), HeadYear.NONE);
            }
        }
        valley("l;l" + ";k".repeat(2), -1);
        valley("l;l" + ";k".repeat(3), 9);
    }

    /** "Blanks (32) may stand between all signs of both, not within numbers." */
    private static void blanks() {
        valley("  l  h  1  f  2  ;  l  ;  k  p  12  ", -1);
        law("  y  :  !  (  b  =  1  )  &  2  <  d  ?  [  3  ]  *  44  ;  y  :  5  ", -1);
        valley("l;l;k p1 2", 9);
        valley("l f9 9;l;k", 5);
        law("y:1 0", 4);
        for (int sign : new int[] {1, 9, 10, 13, 31, 33, 127, 128, 160, 255}) {
            HeadYear x = new HeadYear();
            Check.feed(x, "l;l;k");
            x.feed(sign, 0, 0, 0, 0);
            Check.due("sign " + sign + " is no blank", x.fault(0), 5);
            x.end(0);
            Check.feed(x, "y:1");
            x.feed(sign, 0, 0, 0, 0);
            Check.due("sign " + sign + " is no blank of a law", x.fault(1), 3);
        }
    }

    /** "LAWS (4 at most)", "NONE: .. there are four LAWS". */
    private static void fourLaws() {
        HeadYear x = new HeadYear();
        for (int law = 0; law < 6; law++) {
            Check.due("how many laws", x.count(2), Math.min(law, 4));
            Check.due("law(" + law + ") is none yet", x.law(law), false);
            Check.due("law " + law, Check.tell(x, 1, "y:" + law), law < 4 ? law : -1);
            Check.due("law(" + law + ")", x.law(law), law < 4);
            Check.due("the TAPE", x.count(3), law < 4 ? 0 : 3);
        }
        Check.due("a valley is told yet", Check.tell(x, 0, "l;l;k"), 1);
        Check.due("four stay", x.count(2), 4);
        Check.due("none more", Check.tell(x, 1, "y:1"), -1);
    }

    /** "a number (1 to 4 digits)", "(a fifth one in a LAW) itself". */
    private static void digitsOfALaw() {
        for (String digits : new String[] {"0", "9", "10", "99", "100", "999", "1000", "9999", "0000", "0009"}) {
            law("y:" + digits, -1);
            law("y:" + digits + "?", 2 + digits.length());
            law("y:1=" + digits + "?" + digits, -1);
            law("y:[b+" + digits + "]*" + digits + ";y:" + digits, -1);
        }
        for (String digits : new String[] {"00000", "10000", "99999", "123456789"}) {
            law("y:" + digits, 6);
            law("y:b=" + digits, 8);
            law("y:[" + digits, 7);
            law("y:1;y: " + digits, 11);
        }
        law("y:1=1?10000", 10);
    }

    /** "At most six of ( [ ! within one another", "a seventh of ( [ ! at it": each row of such signs. */
    private static void sixWithin() {
        for (int signs = 5; signs <= 8; signs++) {
            for (int inner = 0; inner <= signs; inner++) {
                int outer = signs - inner;
                for (int bits = 0; bits < 1 << outer; bits++) {
                    within(signs, outer, inner, bits);
                }
            }
        }
        law("y:[[[[[[1]]]]]]=1?[[[[[[1]]]]]];y:[[[[[[1]]]]]]", -1);
        law("y:[1]+[[1]]+[[[1]]]*[[[[1]]]]-[[[[[1]]]]]/[[[[[[1]]]]]]", -1);
        law("y:!(1=1)&!(1=1)&!(1=1)&!(1=1)?1", -1);
        law("y:(1=1&(1=1&(1=1&(1=1&(1=1&(1=1))))))?1", -1);
        law("y:(1=1&(1=1&(1=1&(1=1&(1=1&(1=1&(1=1)))))))?1", 32);
        law("y:!1=1&!!1=1&!!!!!!1=1|!!!!!!!1=1?1", 29);
    }

    /** A row of ! and ( by bits, then [ alone; a ! ends with its unit. */
    private static void within(int signs, int outer, int inner, int bits) {
        StringBuilder text = new StringBuilder("y:");
        StringBuilder behind = new StringBuilder();
        for (int i = 0; i < outer; i++) {
            boolean bracket = (bits >> i & 1) == 1;
            text.append(bracket ? '(' : '!');
            behind.append(bracket ? ")" : "");
        }
        text.append("[".repeat(inner)).append("b").append("]".repeat(inner));
        text.append(outer > 0 || inner % 2 == 0 ? "=1" + behind + "?1" : "");
        law(text.toString(), signs <= 6 ? -1 : 8);
    }

    /** Where a LAW ends too early, or goes on as none can. */
    private static void lawEnds() {
        String text = "y:!(b=1|[d+2]*3<p)&h>0?o-[y/4];y:12";
        for (int n = 0; n <= text.length(); n++) {
            law(text.substring(0, n), isWhole(text.substring(0, n)) ? -1 : n);
            law(text.substring(0, n) + "#", n);
        }
        law("y:1=?1", 4);
        law("y:1<&", 4);
        law("y:(?1", 3);
        law("y:(1=?1)", 5);
        law("y:!?1", 3);
        law("y:[?1", 3);
        law("y:1=1&?1", 6);
        law("y:1=1|?1", 6);
        law("y:(1=1)?", 8);
        law("y:(1=1)?;", 8);
        law("y:1+?1", 4);
        law("y:1*;", 4);
        law("y:[];", 3);
        law("y:();", 3);
    }

    private static boolean isWhole(String text) {
        return text.endsWith("?o") || text.endsWith("y/4]") || text.endsWith("y:1") || text.endsWith("y:12");
    }

    /** "NONE: a FAULT, no such sort": the TAPE stays; told, it is empty. */
    private static void textIsRefused() {
        HeadYear x = new HeadYear();
        for (String text : new String[] {"", " ", "l;l", "l;l;k;", "l;l;k;k;k", "l;l;ka2", "y:", "y:1;", "y:12345"}) {
            for (int sort = -1; sort <= 2; sort++) {
                x.end(0);
                Check.feed(x, text);
                Check.due("text(" + sort + ") of '" + text + "'", x.text(sort), HeadYear.NONE);
                Check.due("the TAPE stays", x.count(3), text.length());
                Check.due("no VALLEY", x.count(0), 0);
                Check.due("no LAW", x.count(2), 0);
            }
        }
        Check.due("one family", Check.tell(x, 0, "l;l;k"), 1);
        Check.due("the TAPE is empty", x.count(3), 0);
        Check.due("the first law", Check.tell(x, 1, "y:1"), 0);
        Check.due("the TAPE is empty", x.count(3), 0);
        Check.due("a law is no valley", Check.tell(x, 0, "y:1"), HeadYear.NONE);
        Check.due("a valley is no law", Check.tell(x, 1, "l;l;k"), HeadYear.NONE);
    }
}
