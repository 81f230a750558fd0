/** Promises 26 to 30: the tape and the texts. */
public final class TextsTest {
    private static final int BAD = AtticStars.BAD, FULL = AtticStars.FULL, NONE = AtticStars.NONE;
    private static final Due due = new Due();

    public static void main(String[] args) {
        tape();
        values();
        faults();
        depths();
        afterFaults();
        blanks();
        numbering();
        laws();
        due.end("TextsTest");
    }

    private static void tape() {
        AtticStars x = new AtticStars();
        for (int n = 12; n <= 96; n += 12) due.is("feed", x.feed(n, -n, 0), n);
        due.is("too much", x.feed(0, 0, 0), FULL);
        due.is("it has", x.count(6), 96);
        due.is("trim high", x.trim(97), BAD);
        due.is("trim low", x.trim(-1), BAD);
        due.is("trim to all", x.trim(96), 96);
        due.is("trim", x.trim(85), 85);
        due.is("one too much", x.feed(0, 0, 0), FULL);
        due.is("trim", x.trim(84), 84);
        due.is("just enough", x.feed(0, 0, 0), 96);
        due.is("trim to none", x.trim(0), 0);
        due.is("it has none", x.count(6), 0);
        due.is("trim of none", x.trim(1), BAD);
        due.is("the highest byte first", x.feed(0x66656520, 0x39312D32, 0x2B332A34), 12);
        due.is("so it is a text", x.text(), 0);
        due.is("fee 91-2+3*4", x.fee(), 101);
        due.is("used up", x.count(6), 0);
        x.feed(0x66656520, 0x35363738, 0x7F000000);
        x.trim(8);
        due.is("trimmed", x.text(), 1);
        due.is("fee 5678", x.fee(), 5678);
    }

    private static void gives(String e, int wanted) {
        AtticStars x = new AtticStars();
        x.attic(0, 0, 1);
        x.set(0, 4, 6);
        due.is("text fee " + e, Due.law(x, "fee " + e), 0);
        due.is("fee " + e, x.fee(), wanted);
    }

    private static void values() {
        gives("0", 0);
        gives("0012", 12);
        gives("9999", 9999);
        gives("o", 6);
        gives("7-2-1", 4);
        gives("7-(2-1)", 6);
        gives("100/10/5", 2);
        gives("100/(10/5)", 50);
        gives("2+3*4", 14);
        gives("(2+3)*4", 20);
        gives("8/3*3", 6);
        gives("(0-7)/2", -3);
        gives("7/0", 0);
        gives("7/0+2", 2);
        gives("1<2", 1);
        gives("2<2", 0);
        gives("2=2", 1);
        gives("3=2", 0);
        gives("3>2", 1);
        gives("2>2", 0);
        gives("1+1=2", 1);
        gives("1<2&3<4", 1);
        gives("1<2&4<3", 0);
        gives("5&7", 1);
        gives("5&0", 0);
        gives("0|0", 0);
        gives("0|9", 1);
        gives("1|0&0", 1);
        gives("(1|0)&0", 0);
        gives("0&0|1", 1);
        gives("!0", 1);
        gives("!7", 0);
        gives("!!7", 1);
        gives("!0+1", 2);
        gives("!(0+1)", 0);
        gives("!o*3", 0);
        gives("2*!0", 2);
        gives("(1<2)<3", 1);
        gives("9999*9999*9999", 9999 * 9999 * 9999);
        gives("(0-9999)*9999*9999", -9999 * 9999 * 9999);
        gives("(0-2048*1024*1024)/(0-1)", Integer.MIN_VALUE);
        gives("t-o*2", -12);
        gives("1+(2*(3-(4/(5-3))))", 3);
        gives("3|0/0", 1);
    }

    private static void fault(String text, int place) {
        AtticStars x = new AtticStars();
        due.is("fault of '" + text + "'", Due.law(x, text), -100 - place);
        due.is("no text came", x.count(4), 0);
        due.is("used up", x.count(6), 0);
    }

    private static void faults() {
        fault("", 0);
        fault("    ", 4);
        fault("want", 4);
        fault("want  ", 6);
        fault("wan", 0);
        fault("  wants p", 2);
        fault("wantp", 0);
        fault("Want p", 0);
        fault("vant p", 0);
        fault("xee 1", 0);
        fault("feez 1", 0);
        fault("fe 1", 0);
        fault("fine z", 5);
        fault("fine pz", 5);
        fault("1", 0);
        fault("want1", 4);
        fault("want t", 5);
        fault("want o", 5);
        fault("want pn", 5);
        fault("fee p", 4);
        fault("fee c", 4);
        fault("fine t", 5);
        fault("fine fine", 5);
        fault("want 12345", 5);
        fault("want 00000", 5);
        fault("want p 12345", 7);
        fault("want p p", 7);
        fault("want p2", 6);
        fault("want 2p", 6);
        fault("want p+", 7);
        fault("want p+ ", 8);
        fault("want p+*2", 7);
        fault("want +p", 5);
        fault("want -1", 5);
        fault("want p-", 7);
        fault("want p--1", 7);
        fault("want (p", 7);
        fault("want (p  ", 9);
        fault("want p)", 6);
        fault("want ()", 6);
        fault("want (p))", 8);
        fault("want p<n<h", 8);
        fault("want p=n>h", 8);
        fault("want (p<n)<h=1", 12);
        fault("want p!", 6);
        fault("want p!=n", 6);
        fault("want p<=n", 7);
        fault("want !", 6);
        fault("want !)", 6);
        fault("want p&&n", 7);
        fault("want p %2", 7);
        fault("want\tp", 4);
        fault("want p\u00e9", 6);
        fault("want p.", 6);
        fault("want P", 5);
        fault("want p;n", 6);
        fault("want p+\u0000", 7);
    }

    private static void depths() {
        AtticStars x = new AtticStars();
        due.is("eight (", Due.law(x, "fee ((((((((1))))))))"), 0);
        due.is("eight and eight", Due.law(x, "fee ((((((((1))))))))+((((((((2))))))))"), 1);
        due.is("it gives", x.fee(), 3);
        fault("fee (((((((((1)))))))))", 12);
        fault("fee (((((((( (", 13);
        due.is("eight !", Due.law(x, "fee !!!!!!!!5"), 2);
        due.is("it gives", x.fee(), 1);
        due.is("eight and eight !", Due.law(x, "fee !!!!!!!!5+!!!!!!!!5"), 3);
        fault("fee !!!!!!!!!5", 12);
        due.is("each by itself", Due.law(x, "fee !(!(!(!(!(!(!(!(0))))))))"), 4);
        due.is("it gives", x.fee(), 0);
        fault("fee !(!(!(!(!(!(!(!(!0))))))))", 20);
        fault("fee !(!(!(!(!(!(!(!((0)))))))))", 20);
        fault("fee !(1+!!!!(2+!!!!3))", 18);
        due.is("open till its piece ends", Due.law(x, "fee !!!!(1)+!!!!(!!!!2)*!!!!!3"), 5);
        due.is("ends with )", Due.law(x, "fee !!!!!!!!(0)&!!!!!!!!(0)"), 6);
        fault("fee !!!!!!!!(!0)", 13);
    }

    /** What a fault leaves open is not open in the next text. */
    private static void afterFaults() {
        AtticStars x = new AtticStars();
        due.is("left open", Due.law(x, "fee ((((((((1"), -113);
        due.is("not open", Due.law(x, "fee ((((((((1))))))))"), 0);
        due.is("left open", Due.law(x, "fee !!!!!!!!"), -112);
        due.is("not open", Due.law(x, "fee !!!!!!!!1"), 1);
        due.is("ends with a word", Due.law(x, "fee 1+fee"), -106);
        due.is("no word is ahead", Due.law(x, "fee 1+2"), 2);
        due.is("it has", x.textTold(2, 1), 2);
        due.is("it gives", x.fee(), 3);
        due.is("stuck at the end", Due.law(x, "fee 1+2t"), -107);
        due.is("no word is ahead", Due.law(x, "fee 4"), 3);
        due.is("it gives", x.fee(), 4);
    }

    private static void blanks() {
        AtticStars x = new AtticStars();
        due.is("blanks", Due.law(x, "   fee   ( 1 + 2 )  * ! 0  "), 0);
        due.is("it gives", x.fee(), 3);
        due.is("a sign needs none", Due.law(x, "fee(4)"), 1);
        due.is("it gives", x.fee(), 4);
        due.is("a sign needs none", Due.law(x, "fee!4"), 2);
        String longest = "fee 1+1+1+1+1+1+1+1+1+1+1+1+1+1+1+1+1+1+1+1+1+1+1+1+1+1+1+1+1+1+1+1+1+1+1+1+1+1+1+1+1+1+1+1+1+10";
        due.is("96 bytes", longest.length(), 96);
        due.is("the longest", Due.law(x, longest), 3);
        due.is("it gives", x.fee(), 55);
        due.is("it has", x.textTold(3, 1), 46);
        fault(longest.substring(0, 93) + "+  ", 96);
        fault(longest.substring(0, 95) + "+", 96);
    }

    private static void numbering() {
        AtticStars x = new AtticStars();
        String[] texts = {"want p+n*h-w", "fee 1", "fine c&c&c", "want 1+1+p"};
        int[] keys = {0, 1, 2, 0};
        int[] leaves = {4, 1, 3, 3};
        for (int i = 0; i < 4; i++) {
            due.is("number", Due.law(x, texts[i]), i);
            due.is("key", x.textTold(i, 0), keys[i]);
            due.is("leaves", x.textTold(i, 1), leaves[i]);
        }
        due.is("why", x.why(0), 3);
        due.is("why", x.why(1), 1);
        due.is("why", x.why(2), 2);
        int[][] wrong = {{4, 0}, {-1, 0}, {0, 2}, {0, -1}};
        for (int[] w : wrong) due.is("textTold wrong", x.textTold(w[0], w[1]), BAD);
        due.is("why wrong", x.why(3), BAD);
        due.is("why wrong", x.why(-1), BAD);
        for (int i = 4; i < 14; i++) due.is("number", Due.law(x, "fee " + i), i);
        due.is("full", Due.law(x, "fee 99"), FULL);
        due.is("used up", x.count(6), 0);
        due.is("fourteen", x.count(4), 14);
        due.is("the last that came", x.fee(), 13);
        due.is("why", x.why(1), 13);
        due.is("a fault stands ahead of FULL", Due.law(x, "fee"), -103);
        AtticStars y = new AtticStars();
        Due.law(y, "fine 1");
        due.is("no want", y.why(0), NONE);
        due.is("no fee", y.why(1), NONE);
        due.is("fine", y.why(2), 0);
    }

    private static void laws() {
        AtticStars x = new AtticStars();
        x.rule(0, 0);
        x.attic(4, 0, 3);
        x.set(0, 3, 100);
        Due.law(x, "want p*2+n+w+h");
        due.is("rent", x.told(0, 7), 40 + 4 + 10 + 3 + 4);
        due.is("paid", x.hours(1), 61);
        due.is("rent", x.told(0, 7), 30 + 3 + 10 + 1 + 3 + 3);
        Due.law(x, "want w>h");
        due.is("a test", x.told(0, 7), 1 + 3 + 3);
    }
}
