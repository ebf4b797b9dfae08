/** Promise 4: the FAULT of a VALLEY and of a LAW. */
final class FaultTest {
    public static void main(String[] args) {
        sorts();
        valleys();
        valleyNumbers();
        valleyEnds();
        laws();
        lawsWithin();
        Check.finish();
    }

    private static void valley(String text, int want) {
        Check.due("the fault of the valley '" + text + "'", Check.fault(0, text), want);
    }

    private static void law(String text, int want) {
        Check.due("the fault of the law '" + text + "'", Check.fault(1, text), want);
    }

    private static void sorts() {
        HeadYear x = new HeadYear();
        Check.due("fault(2)", x.fault(2), -2);
        Check.due("fault(-1)", x.fault(-1), -2);
        Check.feed(x, "l;l;k");
        Check.due("a valley is no law", x.fault(1), 0);
        Check.due("a fault asked leaves the TAPE", x.count(3), 5);
        Check.due("nor tells a valley", x.count(0), 0);
        Check.due("asked again", x.fault(0), HeadYear.NONE);
    }

    private static void valleys() {
        valley("l;l;k", -1);
        valley("k;l;k;l", -1);
        valley("lh4f99d50s1;lh1f0d0s0;kp12a0b100t100;kp1a1b0t0", -1);
        valley("l s1 d3 f2 h1;l;k t1 b2 a1 p3", -1);
        valley("  l  h  2  ;  l  ;  k  p  3  ", -1);
        valley("L;l;k", 0);
        valley(";l;l;k", 0);
        valley("l;;l;k", 2);
        valley("l;l;k;", 6);
        valley("l;l;k x", 6);
        valley("l,l;k", 1);
        valley("ll;k", 1);
        valley("lp3;l;k", 1);
        valley("l;l;kh2", 5);
        valley("l;l;kf2", 5);
        valley("l;l;kd2", 5);
        valley("l;l;ks1", 5);
        valley("la1;l;k", 1);
        valley("lb1;l;k", 1);
        valley("lt1;l;k", 1);
        valley("lh2h2;l;k", 3);
        valley("lf2 h1 f", 7);
        valley("l;l;kp1a0p", 9);
        valley("lh;l;k", 2);
        valley("lh f", 3);
        valley("l;l;k\t", 5);
        valley("l;l;l;l;l;l;l;l;k", -1);
        valley("l;l;l;l;l;l;l;l;l", 16);
        valley("l h4;l h4;l h4;k;k;k;k;ka1;ka1;ka1;ka1;ka2;ka2", -1);
        valley("l h4;l h4;l h4;k;k;k;k;ka1;ka1;ka1;ka1;ka2;ka2;k", 47);
    }

    private static void valleyNumbers() {
        String[] items = {"lh", "lf", "ld", "ls", "kp", "ka", "kb", "kt"};
        int[] least = {1, 0, 0, 0, 1, 0, 0, 0};
        int[] most = {4, 99, 50, 1, 12, 7, 100, 100};
        for (int i = 0; i < items.length; i++) {
            String ahead = "l;l;l;l;l;l;l;" + items[i];
            String behind = i < 4 ? ";k" : ";l";
            int at = ahead.length();
            valley(ahead + least[i] + behind, -1);
            valley(ahead + most[i] + behind, -1);
            valley(ahead + (most[i] + 1) + behind, at + Integer.toString(most[i] + 1).length() - 1);
            valley(ahead + "999" + behind, at + 2);
            valley(ahead + "999", at + 2);
            valley(ahead + "9999" + behind, at + 3);
            valley(ahead + "0001" + behind, at + 3);
            valley(ahead + "001" + behind, -1);
            valley(ahead + behind, at);
            valley(ahead, at);
            if (least[i] == 1) {
                valley(ahead + "0" + behind, at);
                valley(ahead + "000" + behind, at + 2);
                valley(ahead + "0", at);
            }
        }
        valley("lf1 2;l;k", 4);
        valley("lf-1;l;k", 2);
        valley("lh5 ;l;k", 2);
        valley("lh 5  f1;l;k", 3);
        valley("l f100  ", 5);
        valley("l;l;kp13p", 7);
    }

    private static void valleyEnds() {
        valley("", 0);
        valley("   ", 3);
        valley("l", 1);
        valley("l;", 2);
        valley("l;l ", 4);
        valley("l;k", 3);
        valley("l;k  ", 5);
        valley("k", 1);
        valley("l;l;ka2", 7);
        valley("l;l;ka1", -1);
        HeadYear x = Check.valley("l;l;l;ka2");
        Check.feed(x, "l;l;l;ka2");
        Check.due("three levels", x.fault(0), -1);
        x.end(0);
        Check.feed(x, "l;l;ka2");
        Check.due("two levels behind three", x.fault(0), 7);
        valley("ka1;l;l", -1);
        valley("ka2;l;l", 7);
        valley("l;l;k;k", -1);
        valley("l;l;k;k;k", 9);
        valley("lh1;l;k;k;ka1", 13);
        valley("lh1;lh3;ka1;k;ka1;ka1", -1);
        valley("lh1;lh3;ka1;ka1;ka1;ka1 ", 24);
    }

    private static void laws() {
        law("", 0);
        law("  ", 2);
        law("y", 1);
        law("y:", 2);
        law("y:b", -1);
        law(" y : b ", -1);
        law("y:b+d-p*h/o+y", -1);
        law("y:9999", -1);
        law("y:0000", -1);
        law("y:12345", 6);
        law("y:00001", 6);
        law("y:1 2", 4);
        law("x:b", 0);
        law("y;b", 1);
        law("y:x", 2);
        law("y:a", 2);
        law("y:-1", 2);
        law("y:b+", 4);
        law("y:b++", 4);
        law("y:b d", 4);
        law("y:b=", 4);
        law("y:b=d", 5);
        law("y:b=d;y:b", 5);
        law("y:b=d?", 6);
        law("y:b=d?1", -1);
        law("y:b<d?1", -1);
        law("y:b>d?1", -1);
        law("y:b?1", 3);
        law("y:b=d=p?1", 5);
        law("y:b=d?1=2", 7);
        law("y:b=d?1?2", 7);
        law("y:b=d?!b=d", 6);
        law("y:b=d?(b=d)", 6);
        law("y:b&d=1?1", 3);
        law("y:b=1&d?1", 7);
        law("y:b=1&d=1|p=1?1", -1);
        law("y:b=1&|", 6);
        law("y:b=1?1;", 8);
        law("y:b=1?1;y:2", -1);
        law("y:b=1?1;;", 8);
        law("y:1;y:2;y:3", -1);
        law("y:1)", 3);
        law("y:1]", 3);
        law("y:[1", 4);
        law("y:[1)", 4);
        law("y:[1=2]", 4);
        law("y:[!1", 3);
        law("y:[(1", 3);
        law("y:(1)", 4);
        law("y:(1=1)", 7);
        law("y:(1=1)?1", -1);
        law("y:(1=1)+1", 7);
        law("y:(1=1)=1", 7);
        law("y:(1=1]", 6);
        law("y:(1=1?1", 6);
        law("y:(1=1;", 6);
        law("y:!1?", 4);
        law("y:!(1=1)&!1=2|[b]=1?[1]", -1);
        law("y:1=!", 4);
        law("y:1+(", 4);
        law("y:1=(", 4);
        law("y:=1?1", 2);
        law("y:1 = 1 ? 2 ; y : 3 ", -1);
    }

    private static void lawsWithin() {
        law("y:[[[[[[b]]]]]]", -1);
        law("y:[[[[[[[", 8);
        law("y:[[[[[[b]]]]]]+[[[[[[d]]]]]]", -1);
        law("y:[[[[[[b+[d]]]]]]]", 10);
        law("y:((((((1=1))))))?1", -1);
        law("y:(((((((1=1)))))))?1", 8);
        law("y:!!!!!!1=1?1", -1);
        law("y:!!!!!!!1=1?1", 8);
        law("y:!!!!!![1]=1?1", 8);
        law("y:!!!!!!1=[1]?1", 10);
        law("y:!!!!!!1=1&!!!!!!1=1|!!!!!!1=1?[[[[[[1]]]]]]", -1);
        law("y:!(!([[b]]=1))?1", -1);
        law("y:!(!([[[b]]]=1))?1", 8);
        law("y:!(1=1)&[[[[[[1]]]]]]=1?1", -1);
        law("y:((((((1=1)|[1]=1)))))?1", -1);
        law("y:((((((1=1|[1]=1))))))?1", 12);
    }
}
