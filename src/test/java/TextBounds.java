/** Boundary cases of 'Terms', part 4, and of promises 26 to 30: the tape and the texts. */
final class TextBounds {
    private static final String TEXTS = "Terms 4";
    private final Bounds b;

    TextBounds(Bounds bounds) {
        b = bounds;
    }

    void all() {
        limits();
        keys();
        signs();
        pieces();
        names();
        words();
        blanks();
        faults();
        depths();
        values();
        feed();
        trim();
        text();
        textTold();
        why();
    }

    /** fee E, and what it gives. */
    private void gives(String e, int due) {
        b.run("text 'fee " + e + "' = 0; fee = " + due);
    }

    private void fault(String text, int place) {
        b.run("text '" + text + "' = " + (-100 - place) + "; count 4 = 0; count 6 = 0");
    }

    private void limits() {
        b.about(TEXTS, "TEXTS, 14 at most, numbered from 0,");
        b.run("count 4 = 0; text 'fee 1' = 0; text 'want 1' = 1; 10x text 'fine 2'; text 'fee 3' = 12; text 'fee 4' = 13; "
            + "count 4 = 14; text 'fee 5' = FULL; text 'want 5' = FULL; count 4 = 14; fee = 4; why 0 = 1; why 1 = 13; "
            + "textTold 13 0 = 1; textTold 14 0 = BAD");
        b.about(TEXTS, "from THE TAPE (96 bytes at most;");
        b.run("count 6 = 0; 7x feed 0 0 0; count 6 = 84; feed 0 0 0 = 96; feed 0 0 0 = FULL; count 6 = 96; trim 85; "
            + "feed 0 0 0 = FULL; count 6 = 85");
        b.run("text 'fee 1" + " ".repeat(91) + "' = 0; fee = 1; text '" + " ".repeat(91) + "fee 2' = 1; fee = 2");
        b.about(TEXTS, "an act that reads it uses it up, whatever it answers): KEY E.");
        b.run("write 'fee 1'; text = 0; count 6 = 0; text = -100; write 'fee '; text = -104; count 6 = 0; 13x text 'fee 2'; "
            + "write 'fee 3'; text = FULL; count 6 = 0; text = -100; write 'fee'; text = -103; count 6 = 0");
        b.refused("trim 10 = BAD; count 6 = 9; fee = " + new Played().rows(Towns.BUSY + "fee") + "; why 1 = 3; "
            + "textTold 0 0 = 0");
        b.run("write 'fee 41'; keep; hours 1; back; trim 5 = 5; text = 0; fee = 4");
        fault("want", 4);
        fault("1", 0);
        fault("1 fee", 0);
        fault("fee 1 fee 1", 6);
    }

    private void keys() {
        b.about(TEXTS, "KEY: want | fee | fine.");
        b.run("text 'want 1' = 0; textTold 0 0 = 0; text 'fee 1' = 1; textTold 1 0 = 1; text 'fine 1' = 2; textTold 2 0 = 2");
        String[] wrong = {"wan", "wants", "vant", "wanu", "w", "fe", "fees", "gee", "fed", "fin", "fines", "fina", "gine", "f", "want fee", "Want", "FEE"};
        for (String key : wrong) fault(key + " 1", key.equals("want fee") ? 5 : 0);
        fault("fee fee", 4);
        fault("wantfee 1", 0);
    }

    /** Each sign's row: left to right, one sign a rank with TEST; what is missing on a side is the fault. */
    private void signs() {
        b.about(TEXTS, "E, the loosest first: OR: AND { | AND };");
        gives("1|0&0", 1);
        gives("0&0|1", 1);
        gives("0|0", 0);
        gives("0|0|0|7", 1);
        gives("1" + "|1".repeat(45), 1);
        missing("|");
        b.about(TEXTS, "AND: TEST { & TEST };");
        gives("1&2<1", 0);
        gives("2>1&3", 1);
        gives("1&1&0", 0);
        gives("1" + "&1".repeat(45), 1);
        missing("&");
        b.about(TEXTS, "TEST: SUM [ (< | = | >) SUM ];");
        gives("1+1=2", 1);
        gives("3<1+3", 1);
        gives("3>4-2", 1);
        gives("(1<2)<3", 1);
        gives("1<2&3>2|1=0", 1);
        for (String one : new String[] {"<", "=", ">"}) {
            missing(one);
            for (String other : new String[] {"<", "=", ">"}) {
                fault("fee 1" + one + "2" + other + "3", 7);
                fault("fee (1" + one + "2" + other + "3)", 8);
            }
        }
        b.about(TEXTS, "SUM: TERM { (+ | -) TERM };");
        gives("9-3-2", 4);
        gives("9-(3-2)", 8);
        gives("9-3+2", 8);
        gives("1+2*3", 7);
        gives("7-6/2", 4);
        gives("1" + "-1".repeat(45), -44);
        missing("+");
        missing("-");
        b.about(TEXTS, "TERM: PIECE { (* | /) PIECE };");
        gives("100/10/5", 2);
        gives("100/(10/5)", 50);
        gives("100/10*5", 50);
        gives("7/2*2", 6);
        gives("2" + "*1".repeat(45), 2);
        missing("*");
        missing("/");
    }

    private void missing(String sign) {
        fault("fee " + sign + "1", 4);
        fault("fee 1" + sign, 6);
        fault("fee 1" + sign + "  ", 8);
        fault("fee 1" + sign + sign + "1", 6);
        fault("fee (1" + sign + ")", 7);
        fault("fee (" + sign + "1)", 5);
    }

    private void pieces() {
        b.about(TEXTS, "PIECE: NUMBER (1 to 4 digits) | NAME | ! PIECE | ( E ).");
        gives("0", 0);
        gives("9", 9);
        gives("10", 10);
        gives("999", 999);
        gives("9999", 9999);
        gives("0000", 0);
        gives("0009", 9);
        fault("fee 10000", 4);
        fault("fee 00000", 4);
        fault("fee 1+00001", 6);
        gives("t", 0);
        gives("!t", 1);
        gives("!0+1", 2);
        gives("2*!0", 2);
        gives("!(0+1)", 0);
        gives("!!9", 1);
        fault("fee !", 5);
        fault("fee !)", 5);
        fault("fee !+1", 5);
        gives("(1)", 1);
        gives("(1|0)&0", 0);
        gives("((1)+(2))*(3)", 9);
        fault("fee ()", 5);
        fault("fee (", 5);
        fault("fee (1", 6);
        fault("fee 1)", 5);
        fault("fee (1))", 7);
        fault("fee )1(", 4);
        fault("fee 1(2)", 5);
        fault("fee (1)(2)", 7);
        fault("fee (1)2", 7);
        fault("fee 1!2", 5);
    }

    private void names() {
        b.about(TEXTS, "NAMES, each one letter: of want p PRICES of all STARS that it SEES, together, n how many these are, h THE HOUR, w WIDE;");
        b.run("attic 0 1 1; text 'want p'; told 0 7 = 0; text 'want n'; told 0 7 = 0; text 'want h'; told 0 7 = 0; "
            + "text 'want w'; told 0 7 = 1");
        b.run("attic 0 0 12; star 3 1 99; text 'want p'; told 0 7 = 114; text 'want n'; told 0 7 = 4; text 'want w'; "
            + "told 0 7 = 12; text 'want p-n*w'; told 0 7 = 66");
        b.run("attic 4 0 12; text 'want n'; told 0 7 = 19; text 'want w'; told 0 7 = 35; attic 5 0 12; hours 1; told 1 7 = 0; "
            + "text 'want h'; told 1 7 = 1");
        b.run(Towns.LAST_HOUR + "attic 0 0 1; text 'want h'; told 0 7 = 9999; text 'want h-9998'; told 0 7 = 1; set 0 3 9; "
            + "rule 0 0; behind 2 0 = 3");
        onlyNames("want", "pnhw");
        b.about(TEXTS, "of fee t TAKEN, o what all OWE, together (what fee gives is told by fee(); without a TEXT: TAKEN);");
        b.run("fee = 0; text 'fee t'; fee = 0; text 'fee o'; fee = 0; 8x attic 0 0 12; set 0 4 9999; set 7 4 9999; "
            + "fee = 19998");
        b.run(Towns.CLEAR + "attic 0 0 12; attic 0 0 12; set 0 3 25; hours 2 = 25; fee = 25; text 'want 1'; text 'fine 2'; "
            + "fee = 25; text 'fee o-t'; fee = 30");
        onlyNames("fee", "to");
        b.about(TEXTS, "of fine c COIN, o what it OWES (what fine gives for an ATTIC is told by fine(); "
            + "without a TEXT: what it OWES).");
        b.run("8x attic 0 0 1; set 7 3 9999; set 7 4 9998; fine 7 = 9998; fine 0 = 0; text 'fee 1'; text 'want 2'; "
            + "fine 7 = 9998; text 'fine c'; fine 7 = 9999; fine 0 = 0; text 'fine o'; fine 7 = 9998; fine 6 = 0; "
            + "text 'fine o-c'; fine 7 = -1");
        onlyNames("fine", "co");
    }

    private void onlyNames(String key, String names) {
        for (char letter = 'a'; letter <= 'z'; letter++) {
            String text = key + " " + letter;
            if (names.indexOf(letter) >= 0) b.run("text '" + text + "' = 0; text '" + text + letter + "' = " + (-101 - key.length()));
            else fault(text, key.length() + 1);
            fault(key + " " + (char) (letter - 32), key.length() + 1);
        }
    }

    private void words() {
        b.about(TEXTS, "A word is a row of letters a .. z, or of digits, as long as it goes; "
            + "any other byte is a sign by itself.");
        fault("fee ta", 4);
        fault("fee tz", 4);
        fault("fee at", 4);
        fault("fee zt", 4);
        fault("fee t`", 5);
        fault("fee t{", 5);
        fault("fee tA", 5);
        fault("fee tZ", 5);
        fault("fee t@", 5);
        fault("fee t\u00e1", 5);
        fault("fee `", 4);
        fault("fee {{", 4);
        gives("09", 9);
        gives("90", 90);
        fault("fee 1:", 5);
        fault("fee 1.", 5);
        fault("fee 1/", 6);
        fault("fee :1", 4);
        for (int sign : new int[] {0, 1, 9, 10, 31, 34, 127, 128, 160, 255}) {
            fault("fee 1" + (char) sign, 5);
            fault("fee " + (char) sign + "1", 4);
            fault((char) sign + "fee 1", 0);
            fault("fee 1 " + (char) sign, 6);
        }
        gives("1<2&3<4", 1);
        fault("fee 1<>2", 6);
        fault("fee 1&|2", 6);
        fault("fe e 1", 0);
        fault("feet", 0);
    }

    private void blanks() {
        b.about(TEXTS, "Between words and signs, and at the ends, there may be blanks (byte 32);");
        gives("1", 1);
        gives("  ( 1 + 2 )  * ! 0  ", 3);
        b.run("text '   fee 1' = 0; text 'fee   1   ' = 1; text ' fee!1 ' = 2; text 'fee(1)' = 3; text 'fee ! ! 1' = 4; "
            + "fee = 1");
        fault("fee 1 2", 6);
        fault("fee t o", 6);
        fault("fee\t1", 3);
        fault("fee 1<  =2", 8);
        b.about(TEXTS, "a word right behind another one needs one.");
        fault("fee1", 3);
        fault("want1+p", 4);
        fault("fine9999", 4);
        fault("fee12345", 3);
        fault("fee t1", 5);
        fault("fee 1t", 5);
        fault("fee 1+2t", 7);
        b.run("text 'fee 1' = 0; text 'fee(1)+t' = 1; text 'fee 1+(2)*o' = 2");
        b.run("text 'fee 1 2' = -106; text 'fee 1' = 0; text 'fee 1t' = -105; text 'fee 2' = 1; text 'fee x' = -104; "
            + "text 'fee 3' = 2; fee = 3");
    }

    private void faults() {
        b.about(TEXTS, "FAULT: the first byte of the first word or sign with which no TEXT goes on");
        fault("  wants 1", 2);
        fault("xyz (((", 0);
        fault("fee 1 abc def", 6);
        fault("fee 1+abc*", 6);
        fault("fee p+1", 4);
        fault("fine t<=", 5);
        fault("fee 1;2", 5);
        b.about(TEXTS, "(a word that needs a blank ahead of it,");
        fault("fee0", 3);
        fault("  fine1", 6);
        b.about(TEXTS, "a NUMBER of more than 4 digits,");
        gives("9999", 9999);
        fault("fee 99999", 4);
        fault("fee   12345+", 6);
        fault("fee (00000)", 5);
        fault("fee 1 12345", 6);
        fault("fee " + "1".repeat(92), 4);
        b.about(TEXTS, "the end (the place behind the last byte, blanks, too), if it comes too soon.");
        fault("", 0);
        fault(" ", 1);
        fault("want", 4);
        fault("want ", 5);
        fault("fee (", 5);
        fault("fee (1 ", 7);
        fault("fee 1+", 6);
        fault("fee 1+   ", 9);
        fault("fee !  ", 7);
        fault(" ".repeat(96), 96);
        fault("fee" + " ".repeat(93), 96);
        fault("fee " + "1+".repeat(46), 96);
        fault("fee (1" + " ".repeat(90), 96);
    }

    private void depths() {
        b.about(TEXTS, "the ninth ( that would be open within others,");
        gives("((((((((1))))))))", 1);
        gives("((((((((1))))))))+((((((((2))))))))", 3);
        fault("fee (((((((((1)))))))))", 12);
        fault("fee ( ( ( ( ( ( ( ( (", 20);
        fault("fee ((((((((1+(2))))))))))", 14);
        fault("fee (1)+((((((((((", 16);
        fault("fee ((((((((1)))))))", 20);
        gives("(((((((1+(2))))))))*((((((((3))))))))", 9);
        b.about(TEXTS, "the ninth ! likewise,");
        gives("!!!!!!!!5", 1);
        gives("!!!!!!!!5+!!!!!!!!0", 1);
        fault("fee !!!!!!!!!5", 12);
        fault("fee ! ! ! ! ! ! ! ! !1", 20);
        fault("fee !!!!!!!!!", 12);
        b.about(TEXTS, "each by itself;");
        gives("!(!(!(!(!(!(!(!(0))))))))", 0);
        gives("!!!!!!!!((((((((7))))))))", 1);
        gives("((((((((!!!!!!!!7))))))))", 1);
        fault("fee !(!(!(!(!(!(!(!((0)))))))))", 20);
        fault("fee !(!(!(!(!(!(!(!(!0))))))))", 20);
        b.about(TEXTS, "a ! is open till its PIECE ends);");
        gives("!!!!(1)+!!!!(!!!!2)*!!!!!3", 1);
        fault("fee !!!!!!!!(!0)", 13);
        fault("fee !!!!(1+!!!!(2+!3))", 18);
        gives("!!!!(1+!!!!2)+!!!!!!!!3", 2);
        gives("!!!!!!!!(0)&!!!!!!!!(0)", 0);
        fault("fee !!!!!!!!(0)+!!!!!!!!!0", 24);
        b.run("text 'fee ((((((((1' = -113; text 'fee ((((((((1))))))))' = 0; text 'fee !!!!!!!!' = -112; "
            + "text 'fee !!!!!!!!1' = 1; fee = 1");
    }

    private void values() {
        b.about(TEXTS, "Ints wrap;");
        gives("9999*9999*9999", (int) (9999L * 9999 * 9999));
        gives("2048*1024*1024", Integer.MIN_VALUE);
        gives("2048*1024*1024-1", Integer.MAX_VALUE);
        gives("0-2048*1024*1024", Integer.MIN_VALUE);
        gives("(2048*1024*1024)/(0-1)", Integer.MIN_VALUE);
        gives("2048*1024*1024-1+1<0", 1);
        b.about(TEXTS, "/ is 0 by 0;");
        gives("7/0", 0);
        gives("0/0", 0);
        gives("(0-7)/0+2", 2);
        gives("7/t", 0);
        gives("7/(3-3)*5", 0);
        b.about(TEXTS, "tests, & | ! give 1 or 0 (what is not 0 is true; both sides are worked out).");
        int[][] tests = {{1, 2}, {2, 2}, {2, 1}};
        for (int[] t : tests) {
            gives(t[0] + "<" + t[1], t[0] < t[1] ? 1 : 0);
            gives(t[0] + "=" + t[1], t[0] == t[1] ? 1 : 0);
            gives(t[0] + ">" + t[1], t[0] > t[1] ? 1 : 0);
        }
        gives("(0-1)<0", 1);
        gives("5&7", 1);
        gives("4&3", 1);
        gives("(0-1)&1", 1);
        gives("5&0", 0);
        gives("0&5", 0);
        gives("0&0", 0);
        gives("5|7", 1);
        gives("0|7", 1);
        gives("7|0", 1);
        gives("0|0", 0);
        gives("(0-1)|0", 1);
        gives("!0", 1);
        gives("!1", 0);
        gives("!7", 0);
        gives("!(0-1)", 0);
        gives("1|1/0", 1);
        gives("0&1/0", 0);
        b.about(TEXTS, "Of a KEY that TEXT counts that was told last.");
        b.run("text 'fee 1'; text 'fee 2'; fee = 2; why 1 = 1; text 'fine 5'; fee = 2; text 'fee ' = -104; fee = 2; "
            + "text 'fee 1'; fee = 1; why 1 = 3; why 2 = 2");
        b.run("text 'fee 1'; keep; text 'fee 2'; fee = 2; back; fee = 1; why 1 = 0; text 'fee 3' = 1; fee = 3; back; "
            + "text 'want 1' = 1; fee = 1; why 0 = 1");
        b.run("13x text 'fee 1'; text 'fee 2' = 13; fee = 2; text 'fee 3' = FULL; fee = 2; why 1 = 13");
    }

    private static String feed(int a, int b, int c) {
        return "feed " + a + " " + b + " " + c;
    }

    private void feed() {
        b.about("Promise 26", "Twelve bytes come to THE TAPE, the highest of each number first: how many it has.");
        b.run(feed(0x66656520, 0x39312D32, 0x2B332A34) + " = 12; text = 0; fee = 101");
        b.run("feed 0 0 0 = 12; feed MIN MAX -1 = 24; trim 1 = 1; feed 0 0 0 = 13; 6x feed 0 0 0; feed 0 0 0 = FULL; trim 84; "
            + "feed 1 2 3 = 96");
        b.run(feed(0x66656520, 0x31FF2020, 0x20202020) + " = 12; text = -105; "
            + feed(0x66656520, 0x312B80FF, 0) + "; text = -106; "
            + feed(-1, -1, -1) + "; text = -100; " + feed(0x66656520, 0x31202020, 0x202020A0) + "; text = -111");
        b.run("write 'fee 1+'; " + feed(0x32202020, 0x20202020, 0x202B2033) + " = 18; text = 0; fee = 6");
        b.about("Promise 26", "FULL: it would have more than 96.");
        b.refusedIn(Towns.FULL, "feed 0 0 0 = FULL; feed MIN -1 MAX = FULL");
        b.run("8x feed 0 0 0; count 6 = 96; feed 0 0 0 = FULL; trim 85; feed 0 0 0 = FULL; count 6 = 85; trim 84; "
            + "feed 0 0 0 = 96; trim 95; feed 0 0 0 = FULL; text = -100; feed 0 0 0 = 12");
        b.refusedIn("write 'fee 12345" + " ".repeat(76) + "'; trim 85; ", "feed 538976288 538976288 538976288 = FULL");
    }

    private void trim() {
        b.about("Promise 27", "THE TAPE keeps its first n bytes (0 .. as many as it has): n.");
        b.run("trim 0 = 0; write 'fee 1234'; trim 8 = 8; trim 7 = 7; count 6 = 7; trim 6 = 6; text = 0; fee = 12");
        b.run("8x feed 0 0 0; trim 96 = 96; trim 95 = 95; trim 0 = 0; count 6 = 0; text = -100");
        b.run("write 'fee 9'; trim 4 = 4; " + feed(0x37202020, 0x20202020, 0x20202020) + " = 16; text = 0; fee = 7");
        b.about("Promise 27", "BAD.");
        b.refused("trim -1 = BAD; trim 10 = BAD; trim 97 = BAD; trim 96 = BAD");
        b.refusedIn(Towns.FULL, "trim -1 = BAD; trim 97 = BAD");
        b.refusedIn("", "trim -1 = BAD; trim 1 = BAD");
        b.run("write 'fee 1'; trim 3; trim 4 = BAD; trim 3 = 3");
    }

    private void text() {
        b.about("Promise 28", "THE TAPE is a TEXT: its number.");
        b.run("write 'fee 1'; text = 0; write 'want 1'; text = 1; 11x text 'fine 1'; write 'fee 2'; text = 13; count 4 = 14; "
            + "count 6 = 0");
        b.about("Promise 28", "-100 less the place of its FAULT;");
        b.run("text = -100; text ' ' = -101; text 'fee' = -103; "
            + "text '" + " ".repeat(96) + "' = -196; text '" + " ".repeat(95) + "x' = -195; count 4 = 0; fee = 0");
        String town = Towns.BUSY.replace("write 'fee t*7+o'; ", "");
        for (String wrong : new String[] {"fee", "want p+", "fine (c", "fee 12345", "x"}) {
            int answer = new Played().rows("text '" + wrong + "'");
            b.refusedTo(town + "write '" + wrong + "'; ", town, "text = " + answer);
        }
        b.refusedTo(Towns.FULL_WITHOUT_TAPE + "write 'fee'; ", Towns.FULL_WITHOUT_TAPE, "text = -103");
        b.run("13x text 'fee 1'; text 'fee 1' = 13; text 'fee 1+' = -106; text '' = -100; text 'fee 1' = FULL");
        b.about("Promise 28", "FULL.");
        b.refusedTo(Towns.FULL, Towns.FULL_WITHOUT_TAPE, "text = FULL");
        b.run("14x text 'fee 7'; text 'fee 8' = FULL; count 6 = 0; count 4 = 14; fee = 7; why 1 = 13; keep; "
            + "text 'want 1' = FULL; why 0 = NONE");
    }

    private void textTold() {
        b.about("Promise 29", "Of a TEXT: what 0 KEY (0 want, 1 fee, 2 fine), 1 how many NUMBERS and NAMES it has (each as often as it stands there).");
        b.run("text 'want 1'; textTold 0 0 = 0; textTold 0 1 = 1; text 'fee t'; textTold 1 0 = 1; textTold 1 1 = 1; "
            + "text 'fine c+c+1+1'; textTold 2 0 = 2; textTold 2 1 = 4; text 'want !(p<n)&(h|w)*99'; textTold 3 1 = 5; "
            + "text 'fee 1" + "+1".repeat(45) + "'; textTold 4 1 = 46; 9x text 'fee 1'; textTold 13 0 = 1; textTold 13 1 = 1; "
            + "textTold 4 1 = 46; textTold 0 1 = 1");
        b.refused("textTold 0 1 = 2; textTold 3 1 = 1; textTold 3 0 = 1");
        b.about("Promise 29", "BAD.");
        b.refused("textTold -1 0 = BAD; textTold 4 0 = BAD; textTold 0 -1 = BAD; textTold 0 2 = BAD; textTold 4 2 = BAD");
        b.refusedIn(Towns.FULL, "textTold 14 0 = BAD; textTold 13 2 = BAD; textTold -1 1 = BAD");
        b.refusedIn("", "textTold 0 0 = BAD; textTold 0 1 = BAD");
        b.run("text 'fee 1'; keep; text 'fee 2'; textTold 1 0 = 1; back; textTold 1 0 = BAD; textTold 0 0 = 1");
    }

    private void why() {
        b.about("Promise 30", "The TEXT that counts for a KEY.");
        b.run("text 'want 1'; why 0 = 0; text 'fee 1'; text 'fine 1'; why 1 = 1; why 2 = 2; 10x text 'want 2'; text 'fee 2'; "
            + "why 0 = 12; why 1 = 13; why 2 = 2");
        b.refused("why 0 = 0; why 1 = 3; why 2 = 2");
        b.about("Promise 30", "BAD;");
        b.refused("why -1 = BAD; why 3 = BAD");
        b.refusedIn("", "why -1 = BAD; why 3 = BAD");
        b.about("Promise 30", "NONE.");
        b.refusedIn("", "why 0 = NONE; why 1 = NONE; why 2 = NONE");
        b.run("text 'fee 1'; why 0 = NONE; why 1 = 0; why 2 = NONE; keep; text 'fine 1'; why 2 = 1; back; why 2 = NONE; "
            + "why 1 = 0");
    }
}
