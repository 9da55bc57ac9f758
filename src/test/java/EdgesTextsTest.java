/** The boundary cases of Terms 4 and of promises 24 to 28, sentence by sentence. */
public final class EdgesTextsTest extends Edges {
    public static void main(String[] args) {
        testAll(EdgesTextsTest.class);
    }

    private static void good(String text) {
        due.is("'" + text + "'", run().text(text), 0);
    }

    private static void fault(String text, int place) {
        Run x = run();
        due.is("'" + text + "'", x.text(text), -100 - place);
        x.is(0, "count", 7).is(0, "count", 9).is(NONE, "why", 0).is(NONE, "why", 1).is(NONE, "why", 2);
    }

    private static void gives(int want, String e) {
        Run x = run();
        due.is("'fee " + e + "'", x.text("fee " + e), 0);
        due.is("what fee " + e + " gives", x.ask("fee"), want);
    }

    private static void texts(Run x, int until) {
        for (int i = x.ask("count", 7); i < until; i++) {
            x.text("fee " + i);
        }
    }

    // ---- Terms 4

    @Sentence(of = "Terms 4", words = "TEXTS, 14 at most, numbered from 0,")
    static void fourteenTexts() {
        Run x = run();
        for (int i = 0; i < 14; i++) {
            due.is("text " + i, x.text("fee " + i), i);
            x.is(i + 1, "count", 7).is(i, "fee");
        }
        due.is("text 14", x.text("fee 14"), FULL);
        x.is(14, "count", 7).is(13, "fee").is(13, "why", 1).is(1, "textTold", 13, 0).is(BAD, "textTold", 14, 0);
    }

    @Sentence(of = "Terms 4", words = "from THE TAPE (96 bytes at most;")
    static void ninetySixBytes() {
        Run x = run();
        for (int i = 1; i <= 8; i++) {
            x.is(12 * i, "feed", 0, 0, 0);
        }
        x.is(FULL, "feed", 0, 0, 0).is(96, "count", 9);
        // 96 bytes are read to the last.
        String ones = "fee 1" + "+1".repeat(45);
        due.is("95 bytes and a digit", run().text(ones + "9"), 0);
        due.is("95 bytes and a blank", run().text(ones + " "), 0);
        fault(ones + "+", 96);
        fault(ones + ")", 95);
        fault(" ".repeat(95) + "f", 95);
        fault(" ".repeat(93) + "fee", 96);
        Run y = run();
        y.text(ones + "9");
        y.is(45 + 19, "fee").is(46, "textTold", 0, 1);
    }

    @Sentence(of = "Terms 4", words = "an act that reads it uses it up, whatever it answers)")
    static void usedUp() {
        leaves(Edges::laden, x -> { ladenButTape(x); x.text("fee n+44*w "); }, 4, "text");
        run().tape("fee 1").is(5, "count", 9).is(0, "text").is(0, "count", 9).is(-100, "text").is(0, "count", 9);
        run().tape("fee").is(3, "count", 9).is(-103, "text").is(0, "count", 9).is(-100, "text");
        run(x -> texts(x, 14)).tape("fee 1").is(FULL, "text").is(0, "count", 9).is(-100, "text");
        run().is(-100, "text").is(0, "count", 9);
    }

    @Sentence(of = "Terms 4", words = "KEY E. KEY: pull | fee | fine.")
    static void keys() {
        good("pull 1");
        good("fee 1");
        good("fine 1");
        fault("pul 1", 0);
        fault("pulls 1", 0);
        fault("fe 1", 0);
        fault("feee 1", 0);
        fault("fin 1", 0);
        fault("fines 1", 0);
        fault("gull 1", 0);
        fault("pulk 1", 0);
        fault("PULL 1", 0);
        fault("f ee 1", 0);
        fault("1", 0);
        fault("w", 0);
        fault("(fee 1)", 0);
        fault("fee fee 1", 4);
        fault("fee pull", 4);
        fault("fee", 3);
        fault("pull", 4);
        fault("fine", 4);
    }

    @Sentence(of = "Terms 4", words = "E, the loosest first: OR: AND { | AND };")
    static void ors() {
        gives(7, "7");
        gives(1, "0|7");
        gives(1, "0|0|0|0|7");
        gives(0, "0|0|0|0|0");
        gives(1, "1|0&0");
        gives(1, "0&0|1");
        gives(1, "0=1|2");
        fault("fee |1", 4);
        fault("fee 1|", 6);
        fault("fee 1||1", 6);
        fault("fee 1|&1", 6);
    }

    @Sentence(of = "Terms 4", words = "AND: TEST { & TEST };")
    static void ands() {
        gives(7, "7");
        gives(1, "7&3");
        gives(1, "7&3&2&1");
        gives(0, "7&3&2&0");
        gives(0, "0&3&2&1");
        gives(1, "2&1<2");
        gives(1, "1<2&3");
        fault("fee &1", 4);
        fault("fee 1&", 6);
        fault("fee 1&&1", 6);
        fault("fee 1&|1", 6);
    }

    @Sentence(of = "Terms 4", words = "TEST: SUM [ (< | = | >) SUM ];")
    static void tests() {
        gives(5, "2+3");
        gives(1, "1+1<3");
        gives(1, "3<1+3");
        gives(1, "2=1+1");
        gives(1, "1+1>1");
        fault("fee 1<2<3", 7);
        fault("fee 1<2=1", 7);
        fault("fee 1=2>1", 7);
        fault("fee 1>2<1", 7);
        gives(1, "(1<2)<3");
        gives(1, "0<(2<3)");
        gives(1, "1<2&2<3");
        fault("fee (1<2<3)", 8);
        fault("fee <1", 4);
        fault("fee =1", 4);
        fault("fee >1", 4);
        fault("fee 1<", 6);
        fault("fee 1<=2", 6);
        fault("fee 1>=2", 6);
        fault("fee 1==2", 6);
        fault("fee 1<>2", 6);
    }

    @Sentence(of = "Terms 4", words = "SUM: TERM { (+ | -) TERM };")
    static void sums() {
        gives(10, "1+2+3+4");
        gives(5, "10-3-2");
        gives(9, "10-3+2");
        gives(7, "1+2*3");
        gives(-5, "1-2*3");
        fault("fee +1", 4);
        fault("fee -1", 4);
        fault("fee 1+", 6);
        fault("fee 1-", 6);
        fault("fee 1+-1", 6);
        fault("fee 1-+1", 6);
    }

    @Sentence(of = "Terms 4", words = "TERM: PIECE { (* | /) PIECE };")
    static void terms() {
        gives(24, "2*3*4");
        gives(2, "100/10/5");
        gives(3, "2*7/4");
        gives(2, "7/4*2");
        fault("fee *1", 4);
        fault("fee /1", 4);
        fault("fee 1*", 6);
        fault("fee 1/", 6);
        fault("fee 1**1", 6);
        fault("fee 1//1", 6);
    }

    @Sentence(of = "Terms 4", words = "PIECE: NUMBER (1 to 4 digits) | NAME | ! PIECE | ( E ).")
    static void pieces() {
        gives(0, "0");
        gives(9, "9");
        gives(10, "10");
        gives(999, "999");
        gives(9999, "9999");
        gives(0, "0000");
        gives(7, "0007");
        fault("fee 00000", 4);
        fault("fee 10000", 4);
        Run x = boats(1).does("rule", 2, 99).does("hours", 2);
        x.text("pull 0");
        x.is(0, "told", 0, 7);
        x.text("pull 0001");
        x.is(1, "told", 0, 7);
        gives(0, "w");
        gives(1, "!w");
        gives(0, "!!w");
        gives(8, "!0*8");
        gives(2, "!0+1");
        gives(1, "!1<1");
        gives(1, "!0|1");
        gives(0, "!1&0");
        gives(3, "(3)");
        gives(3, "((3))");
        gives(0, "!(3)");
        gives(1, "(0|3)");
        gives(6, "(1+2)*2");
        fault("fee ()", 5);
        fault("fee (1", 6);
        fault("fee 1)", 5);
        fault("fee (1))", 7);
        fault("fee !", 5);
        fault("fee !)", 5);
        fault("fee (!)", 6);
        fault("fee 1!1", 5);
        fault("fee (1)(1)", 7);
        fault("fee 1(1)", 5);
        fault("fee (1)1", 7);
        fault("fee (1)w", 7);
        fault("fee 1 1", 6);
        fault("fee w w", 6);
    }

    @Sentence(of = "Terms 4", words = "NAMES, each one letter: of pull w WIND, h WEIGHT, s SINCE;")
    static void namesOfPull() {
        names("pull", "whs");
        Run x = run().does("boat", 0, 50, 0).does("boat", 0, 1, 0).does("rule", 2, 99);
        x.text("pull w");
        x.does("rule", 0, 0).is(0, "told", 0, 7).does("rule", 0, 9).is(9, "told", 0, 7).is(9, "told", 1, 7);
        x.text("pull h");
        x.is(50, "told", 0, 7).is(1, "told", 1, 7);
        x.text("pull s+1");
        x.is(1, "told", 0, 7).is(1, "told", 1, 7).does("hours", 98).is(99, "told", 0, 7).is(99, "told", 1, 7);
        // WIND and SINCE are those of the hour that passes.
        Run y = boats(1).does("rule", 2, 99).does("hours", 2).does("set", 0, 2, 0).does("seed", Draws.forWinds(7));
        y.text("pull w*100+s");
        y.does("hours", 1).is(702, "told", 0, 2);
    }

    @Sentence(of = "Terms 4", words = "of fee w WEAR, n THE HOUR (what fee gives is told by fee();")
    static void namesOfFee() {
        names("fee", "wn");
        Run x = run();
        x.text("fee w");
        x.is(0, "fee").does("hours", 3).is(0, "fee").does("boat", 0, 1, 0).does("hours", 2).is(2, "fee");
        x.text("fee n");
        x.is(5, "fee");
        Run y = run(z -> late(z, 99));
        y.text("fee n+w");
        y.is(9999, "fee");
    }

    @Sentence(of = "Terms 4", words = "without a TEXT: WEAR);")
    static void feeWithoutText() {
        run().is(0, "fee").does("hours", 9).is(0, "fee");
        Run x = boats(1).does("hours", 9).is(9, "fee");
        x.text("pull 1");
        x.text("fine 2");
        x.is(9, "fee");
        x.text("fee (");
        x.is(9, "fee");
    }

    @Sentence(of = "Terms 4", words = "of fine c CATCH, p PATCHES (what fine gives for a BOAT is told by fine();")
    static void namesOfFine() {
        names("fine", "cp");
        Run x = boats(2).does("set", 1, 1, 9).does("rule", 4, 100).does("hours", 3);
        x.text("fine c");
        x.is(6, "fine", 0).is(0, "fine", 1);
        x.text("fine p");
        x.is(0, "fine", 0).is(3, "fine", 1);
    }

    @Sentence(of = "Terms 4", words = "without a TEXT: CATCH).")
    static void fineWithoutText() {
        Run x = boats(2).is(0, "fine", 0).does("rule", 4, 100).does("hours", 3).is(0, "fine", 0).is(6, "fine", 1);
        x.text("pull 1");
        x.text("fee 2");
        x.is(6, "fine", 1);
        x.text("fine c+");
        x.is(6, "fine", 1);
    }

    private static void names(String key, String names) {
        for (char c = 'a'; c <= 'z'; c++) {
            if (names.indexOf(c) >= 0) {
                good(key + " " + c);
                fault(key + " " + c + c, key.length() + 1);
            } else {
                fault(key + " " + c, key.length() + 1);
            }
        }
    }

    @Sentence(of = "Terms 4", words = "A word is a row of letters a .. z, or of digits, as long as it goes;")
    static void words() {
        fault("fee ww", 4);
        fault("fee 1+nw", 6);
        fault("fee w1", 5);
        fault("fee 1w", 5);
        fault("feew", 0);
        fault("fee 1a", 5);
        fault("fee 1z", 5);
        fault("fee wa", 4);
        fault("fee wz", 4);
        good("fee 10");
        good("fee 19");
        // Those right beside a, z, 0 and 9 are signs.
        fault("fee w`", 5);
        fault("fee w{", 5);
        fault("fee 1:", 5);
        fault("fee 1/", 6);
        fault("fee w/", 6);
        fault("`fee 1", 0);
        fault("{fee 1", 0);
        fault("fee{ 1", 3);
        fault("fee wA", 5);
        fault("fee wZ", 5);
    }

    @Sentence(of = "Terms 4", words = "any other byte is a sign by itself.")
    static void everyByteIsAWordOrASign() {
        for (int b = 0; b < 256; b++) {
            char c = (char) b;
            boolean digit = b >= '0' && b <= '9';
            boolean joins = b > 0 && b < 128 && "|&<=>+-*/".indexOf(c) >= 0;
            boolean opens = c == '!' || c == '(';
            int behind = c == ' ' || digit ? 0 : joins ? -106 : -105;
            due.is("byte " + b + " behind a piece", run().text("fee 1" + c), behind);
            int asPiece = c == 'w' || c == 'n' || digit ? 0 : c == ' ' || opens ? -105 : -104;
            due.is("byte " + b + " for a piece", run().text("fee " + c), asPiece);
            due.is("byte " + b + " ahead of all", run().text(c + "fee 1"), c == ' ' ? 0 : -100);
            // Twice: two signs stand by themselves, letters and digits grow together.
            int twice = c == ' ' || digit ? 0 : joins ? -106 : -105;
            due.is("byte " + b + " behind a piece, twice", run().text("fee 1" + c + c), twice);
            due.is("byte " + b + " behind a sign", run().text("fee (" + c),
                c == 'w' || c == 'n' || digit || opens || c == ' ' ? -106 : -105);
        }
    }

    @Sentence(of = "Terms 4", words = "Between words and signs, and at the ends, there may be blanks (byte 32);")
    static void blanks() {
        good("   fee   (   1   +   w   )   *   !   n   ");
        good("fee(1+w)*!n");
        good(" fee 1");
        good("fee 1 ");
        good("fee     1");
        fault("fee 1 2", 6);
        fault("fe e 1", 0);
        for (char c : new char[] {0, 9, 10, 13, 31, 33, 95, 160}) {
            fault("fee" + c + "1)", c == 33 ? 5 : 3);
            fault("fee 1" + c, 5);
        }
        fault("\tfee 1", 0);
    }

    @Sentence(of = "Terms 4", words = "a word right behind another one needs one.")
    static void wordsBehindWords() {
        fault("fee1", 3);
        good("fee 1");
        fault("pull12", 4);
        fault("fine9999", 4);
        good("fee(1)");
        good("fee!1");
        fault("fee 1w", 5);
        fault("fee 1 w", 6);
        fault("fee w1", 5);
        fault("fee w 1", 6);
    }

    @Sentence(of = "Terms 4", words = "FAULT: the first byte of the first word or sign with which no TEXT goes on")
    static void firstFault() {
        fault("? fee 1 1", 0);
        fault("fee ? 1 1", 4);
        fault("fee 1 1 ?", 6);
        fault("fee   12345 ?", 6);
        fault("fee 1 + abc", 8);
        fault("  x", 2);
        fault("  fee  )", 7);
        fault("fee 1 + + 1", 8);
        fault("fee (1 2", 7);
        fault("fee (1<2 <3", 9);
    }

    @Sentence(of = "Terms 4", words = "(a word that needs a blank ahead of it,")
    static void faultOfAGluedWord() {
        fault("fee1", 3);
        fault("fee1+1", 3);
        fault("fine0 ", 4);
        fault("pull1234", 4);
        // Its first byte, whatever else is wrong with it.
        fault("fee12345", 3);
        fault("fee 1fee", 5);
    }

    @Sentence(of = "Terms 4", words = "a NUMBER of more than 4 digits,")
    static void faultOfALongNumber() {
        good("fee 1234");
        fault("fee 12345", 4);
        fault("fee 1+12345", 6);
        fault("fee 1+ 00001", 7);
        fault("fee " + "1".repeat(92), 4);
        good("fee 1234+5678");
        good("fee " + "1234+".repeat(17) + "1234 ");
        // Where no NUMBER can stand it is the word's first byte as well.
        fault("12345", 0);
        fault("fee 1 12345", 6);
    }

    @Sentence(of = "Terms 4", words = "the ninth ( that would be open within others,")
    static void ninthBracket() {
        good("fee " + "(".repeat(8) + "1" + ")".repeat(8));
        fault("fee " + "(".repeat(9) + "1" + ")".repeat(9), 12);
        fault("fee " + "(".repeat(8), 12);
        fault("fee " + "(".repeat(9), 12);
        fault("fee " + "(".repeat(40), 12);
        fault("fee " + "( ".repeat(9), 20);
        good("fee " + "(1)+".repeat(9) + "1");
        good("fee " + "(".repeat(8) + "1" + ")".repeat(8) + "+(1)");
        good("fee (1)+" + "(".repeat(8) + "1" + ")".repeat(8));
        good("fee " + "(".repeat(8) + "1" + ")+(1)" + ")".repeat(7));
        fault("fee " + "(".repeat(8) + "1+(1)" + ")".repeat(8), 14);
        fault("fee " + "(1+".repeat(8) + "(", 28);
        fault("fee " + "(1|1&1<1+1*".repeat(8) + "(", 92);
    }

    @Sentence(of = "Terms 4", words = "( E ).")
    static void deepAndWide() {
        // 1-2*(3-4*( .. (15-16*17)): two wait at each of eight levels.
        StringBuilder minus = new StringBuilder();
        int value = 17;
        for (int i = 15; i >= 1; i -= 2) {
            value = i - (i + 1) * value;
        }
        for (int i = 1; i <= 15; i += 2) {
            minus.append(i).append('-').append(i + 1).append("*(");
        }
        gives(value, minus + "17" + ")".repeat(8));
        // Five wait at each of seven levels.
        gives(1, "(0|1&0<1+2*".repeat(7) + "3" + ")".repeat(7));
        gives(0, "(0|1&9<1+2*".repeat(7) + "3" + ")".repeat(7));
        gives(1, "(0|1&9<1+2*".repeat(6) + "(0|1&9<1+2*5" + ")".repeat(7) + "=0");
    }

    @Sentence(of = "Terms 4", words = "the ninth ! likewise,")
    static void ninthNot() {
        gives(1, "!".repeat(7) + "0");
        gives(0, "!".repeat(8) + "0");
        fault("fee " + "!".repeat(9) + "0", 12);
        fault("fee " + "!".repeat(8), 12);
        fault("fee " + "!".repeat(9), 12);
        fault("fee " + "! ".repeat(9), 20);
        good("fee " + "!1+".repeat(9) + "1");
        good("fee " + "!".repeat(8) + "1+!1");
        good("fee !1+" + "!".repeat(8) + "1");
        good("fee (" + "!".repeat(8) + "1)+!1");
        // A ! is open as long as its PIECE goes on.
        fault("fee " + "!".repeat(8) + "(!1)", 13);
        fault("fee " + "!(".repeat(8) + "!1" + ")".repeat(8), 20);
        fault("fee " + "!".repeat(8) + "(1+!1)", 15);
        good("fee " + "!".repeat(7) + "(!1+!1)+!!1");
    }

    @Sentence(of = "Terms 4", words = "each by itself);")
    static void bracketsAndNotsByThemselves() {
        good("fee " + "!(".repeat(8) + "1" + ")".repeat(8));
        good("fee " + "(!".repeat(8) + "1" + ")".repeat(8));
        good("fee " + "!".repeat(8) + "(".repeat(8) + "1" + ")".repeat(8));
        good("fee " + "(".repeat(8) + "!".repeat(8) + "1" + ")".repeat(8));
        fault("fee " + "!(".repeat(8) + "(1)" + ")".repeat(8), 20);
        fault("fee " + "(".repeat(8) + "!".repeat(9) + "1", 20);
        fault("fee " + "!".repeat(8) + "(".repeat(9) + "1", 20);
    }

    @Sentence(of = "Terms 4", words = "the end (the place behind the last byte), if it comes too soon.")
    static void endTooSoon() {
        String[] ends = {"", " ", "   ", "fee", "fee ", "pull   ", "fine 1+", "fee 1 + ", "fee (", "fee (1", "fee (1 ", "fee ((1)",
            "fee !", "fee ! ", "fee 1<", "fee 1=", "fee 1>", "fee 1&", "fee 1|  ", "fee 1-", "fee 1*", "fee 1/", "fee !(!1"};
        for (String text : ends) {
            fault(text, text.length());
        }
        fault(" ".repeat(96), 96);
        run().is(-100, "text");
        run().does("feed", 0x66656520, 0x312b2020, 0x20202020).is(-112, "text");
        // What trim took off, or a text used up, is no byte any more, not even if it was blank or would go on.
        for (String behind : new String[] {" ", "      ", "2     ", " 2"}) {
            run().tape("fee 1+" + behind).is(6, "trim", 6).is(-106, "text");
            run().tape("fee 1+2     " + behind).does("text").tape("fee      1+ ").is(-112, "text");
        }
    }

    @Sentence(of = "Terms 4", words = "Ints wrap;")
    static void intsWrap() {
        gives(MIN, "8192*8192*32");
        gives(MAX, "8192*8192*32-1");
        gives(MIN, "8192*8192*32-1+1");
        gives(MAX, "0-8192*8192*32-1");
        gives(0, "8192*8192*32*2");
        gives(MIN, "0-8192*8192*32");
        gives(MIN, "8192*8192*32/(0-1)");
        gives((int) (9999L * 9999 * 9999 * 9999), "9999*9999*9999*9999");
        gives(1, "8192*8192*32<0");
        gives(1, "8192*8192*32<8192*8192*32-1");
    }

    @Sentence(of = "Terms 4", words = "/ is 0 by 0;")
    static void dividedBy0() {
        gives(0, "7/0");
        gives(0, "0/0");
        gives(0, "(0-7)/0");
        gives(5, "7/0+5");
        gives(0, "7/(3-3)");
        gives(0, "7/w");
        gives(0, "8192*8192*32/0");
        gives(0, "8/0/0");
        gives(7, "7/1");
        Run x = boats(1);
        x.text("pull 9/s");
        x.is(0, "told", 0, 7).is(0, "speed").does("hours", 1).is(9, "told", 0, 7);
        x.text("fine 5/c");
        x.is(0, "fine", 0);
    }

    @Sentence(of = "Terms 4", words = "tests, & | ! give 1 or 0")
    static void oneOr0() {
        gives(1, "1<2");
        gives(0, "2<2");
        gives(0, "3<2");
        gives(0, "1=2");
        gives(1, "2=2");
        gives(0, "3=2");
        gives(0, "1>2");
        gives(0, "2>2");
        gives(1, "3>2");
        gives(1, "5&7");
        gives(1, "5|7");
        gives(0, "!7");
        gives(1, "!0");
        gives(1, "!!7");
    }

    @Sentence(of = "Terms 4", words = "(what is not 0 is true; both sides are worked out).")
    static void notZeroIsTrue() {
        gives(1, "(0-1)&(0-1)");
        gives(1, "0|0-1");
        gives(0, "!(0-1)");
        gives(0, "0&0");
        gives(0, "0&5");
        gives(0, "5&0");
        gives(0, "0|0");
        gives(1, "0|5");
        gives(1, "5|0");
        gives(1, "8192*8192*32&1");
        gives(1, "2&1");
        gives(1, "1|1/0");
        gives(0, "0&1/0");
    }

    @Sentence(of = "Terms 4", words = "Of a KEY that TEXT counts that was told last.")
    static void toldLast() {
        Run x = run(y -> texts(y, 12)).is(11, "fee");
        x.text("pull 5");
        x.text("fee 77");
        x.is(77, "fee").is(13, "why", 1).is(12, "why", 0).is(NONE, "why", 2);
        x.text("fee 99");
        x.is(77, "fee").is(13, "why", 1);
        x.text("fee 99 99");
        x.is(77, "fee").is(13, "why", 1);
        Run z = boats(1);
        z.text("fine 1");
        z.text("pull 2");
        z.text("fee 3");
        z.is(1, "fine", 0).is(2, "told", 0, 7).is(3, "fee");
        z.text("pull 4");
        z.is(1, "fine", 0).is(4, "told", 0, 7).is(4, "speed").is(3, "fee");
    }

    // ---- Promise 24

    @Sentence(of = "Promise 24", words = "Twelve bytes come to THE TAPE, the highest of each number first: how many it has.")
    static void twelveBytes() {
        // "fee 1234+567" by four bytes at a time, the highest first.
        run().is(12, "feed", 0x66656520, 0x31323334, 0x2b353637).is(12, "count", 9).is(0, "text").is(1801, "fee");
        run().does("feed", 0x20202020, 0x20202020, 0x20202020).is(24, "feed", 0x66656520, 0x34332120, 0).is(-118, "text");
        run().does("feed", 0xff202020, 0, 0).is(-100, "text");
        run().does("feed", 0x20ff2020, 0, 0).is(-101, "text");
        run().does("feed", 0x20208020, 0, 0).is(-102, "text");
        run().does("feed", 0x20202080, 0, 0).is(-103, "text");
        run().does("feed", 0x20202020, MIN, 0).is(-104, "text");
        run().does("feed", 0x20202020, 0x20202020, -1).is(-108, "text");
        run().does("feed", 0x20202020, 0x20202020, 0x202020ff).is(-111, "text");
    }

    @Sentence(of = "Promise 24", words = "FULL: it would have more than 96.")
    static void feedFull() {
        Setup full = x -> { laden(x); x.does("trim", 0).tape("fee " + "1+".repeat(45) + "1 "); };
        run(full).is(96, "count", 9);
        still(full, FULL, "feed", 0, 0, 0);
        still(x -> { full.on(x); x.does("trim", 85); }, FULL, "feed", MIN, MAX, -1);
        run(full).does("trim", 84).is(96, "feed", 0, 0, 0).is(96, "count", 9);
        run().does("feed", 0, 0, 0).does("trim", 0).is(12, "feed", 0, 0, 0);
    }

    // ---- Promise 25

    @Sentence(of = "Promise 25", words = "THE TAPE keeps its first n bytes: n.")
    static void firstBytes() {
        run().is(0, "trim", 0).is(0, "count", 9);
        run().tape("fee 12").is(6, "trim", 6).is(5, "trim", 5).is(5, "count", 9).is(0, "text").is(1, "fee");
        run().tape("fee 12").is(0, "trim", 0).is(0, "count", 9).is(-100, "text");
        run().tape("fee 12").does("trim", 5).tape("9").is(6, "count", 9).is(0, "text").is(19, "fee");
        Run x = run();
        for (int i = 0; i < 8; i++) {
            x.does("feed", 0, 0, 0);
        }
        x.is(96, "trim", 96).is(BAD, "trim", 97).is(96, "count", 9).is(95, "trim", 95).is(BAD, "trim", 96).is(95, "count", 9);
        leaves(y -> { laden(y); y.tape("+1"); }, Edges::laden, 11, "trim", 11);
    }

    @Sentence(of = "Promise 25", words = "BAD.")
    static void trimBad() {
        for (int n : new int[] {-1, 12, 96, 97, MIN, MAX}) {
            still(Edges::laden, BAD, "trim", n);
        }
        still(Edges::laden, 11, "trim", 11);
        run().is(BAD, "trim", -1).is(BAD, "trim", 1);
    }

    // ---- Promise 26

    @Sentence(of = "Promise 26", words = "THE TAPE is a TEXT: its number.")
    static void itsNumber() {
        Run x = run();
        for (int i = 0; i < 14; i++) {
            due.is("text", x.text(new String[] {"pull 1", "fee 1", "fine 1"}[i % 3]), i);
        }
        // A fault uses up no number, and those behind the image are given again.
        Run y = run();
        due.is("text", y.text("fee 1"), 0);
        due.is("text", y.text("fee 1 1"), -106);
        due.is("text", y.text("fee 2"), 1);
        y.does("keep");
        due.is("text", y.text("fee 3"), 2);
        y.does("back").is(2, "fee");
        due.is("text", y.text("fee 4"), 2);
        y.is(4, "fee");
    }

    @Sentence(of = "Promise 26", words = "-100 less the place of its FAULT;")
    static void faultIsRefused() {
        String[] texts = {"", "?", "fee", "fee 1 1", "fee 12345", "fee " + "(".repeat(9), "fee1", "fee 1 + "};
        int[] places = {0, 0, 3, 6, 4, 12, 3, 8};
        for (int i = 0; i < texts.length; i++) {
            String text = texts[i];
            leaves(x -> { ladenButTape(x); x.tape(text); }, Edges::ladenButTape, -100 - places[i], "text");
        }
        fault(" ".repeat(96), 96);
        Run x = run(y -> texts(y, 14));
        due.is("a fault stands first", x.text("fee 1 1"), -106);
        due.is("a fault stands first", x.text("fee"), -103);
        x.is(-100, "text");
    }

    @Sentence(of = "Promise 26", words = "FULL.")
    static void textFull() {
        Setup full = x -> { ladenButTape(x); texts(x, 14); };
        leaves(x -> { full.on(x); x.tape("fee 1"); }, full, FULL, "text");
        Run x = run(y -> texts(y, 13));
        due.is("the last one", x.text("fine 1"), 13);
        due.is("one more", x.text("fine 1"), FULL);
        x.is(14, "count", 7).is(13, "why", 2);
    }

    // ---- Promise 27

    @Sentence(of = "Promise 27", words = "Of a TEXT: what 0 KEY (0 pull, 1 fee, 2 fine), 1 how many NUMBERS and NAMES it has.")
    static void textTold() {
        Run x = run();
        x.text("pull 1");
        x.text("fee !(w<12)|!!n+n");
        x.text("fine " + "1+".repeat(44) + "c ");
        x.is(0, "textTold", 0, 0).is(1, "textTold", 0, 1).is(1, "textTold", 1, 0).is(4, "textTold", 1, 1);
        x.is(2, "textTold", 2, 0).is(45, "textTold", 2, 1);
        Run y = run(z -> texts(z, 13));
        y.text("fine p*p");
        y.is(2, "textTold", 13, 0).is(2, "textTold", 13, 1).is(1, "textTold", 0, 0).is(1, "textTold", 0, 1);
        still(Edges::laden, 2, "textTold", 2, 0);
        still(Edges::laden, 4, "textTold", 0, 1);
    }

    @Sentence(of = "Promise 27", words = "BAD.")
    static void textToldBad() {
        int[][] bad = {{-1, 0}, {4, 0}, {13, 0}, {14, 0}, {MIN, 0}, {MAX, 0}, {0, -1}, {0, 2}, {0, MIN}, {0, MAX}};
        for (int[] b : bad) {
            still(Edges::laden, BAD, "textTold", b);
        }
        run().is(BAD, "textTold", 0, 0).is(BAD, "textTold", 0, 1);
        Run x = run().does("keep");
        x.text("fee 1");
        x.is(1, "textTold", 0, 0).does("back").is(BAD, "textTold", 0, 0);
    }

    // ---- Promise 28

    @Sentence(of = "Promise 28", words = "The TEXT that counts for a KEY.")
    static void why() {
        Run x = run();
        x.text("fine 1");
        x.text("pull 1");
        x.text("fee 1");
        x.is(1, "why", 0).is(2, "why", 1).is(0, "why", 2);
        x.text("fine 2");
        x.is(1, "why", 0).is(2, "why", 1).is(3, "why", 2);
        still(Edges::laden, 0, "why", 0);
        still(Edges::laden, 3, "why", 1);
        still(Edges::laden, 2, "why", 2);
    }

    @Sentence(of = "Promise 28", words = "BAD; NONE.")
    static void whyBad() {
        for (int key : new int[] {-1, 3, MIN, MAX}) {
            still(Edges::laden, BAD, "why", key);
            run().is(BAD, "why", key);
        }
    }

    @Sentence(of = "Promise 28", words = "NONE.")
    static void whyNone() {
        for (int key = 0; key < 3; key++) {
            still(x -> { }, NONE, "why", key);
            Run x = run().does("keep");
            x.text(new String[] {"pull 1", "fee 1", "fine 1"}[key]);
            x.is(0, "why", key).is(NONE, "why", (key + 1) % 3).is(NONE, "why", (key + 2) % 3).does("back").is(NONE, "why", key);
        }
    }
}
