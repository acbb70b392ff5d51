/**
 * Section 1 of the terms, THE LAW: each sentence that names an edge has a function of its own here,
 * which quotes it.
 */
public final class LawEdgesTest {
    private static final String NAMES = "hdkmcp";

    public static void main(String[] args) {
        tapeOfAtMost120Bytes();
        tapeIsEmptyThen();
        aFaultLeavesTheLaw();
        linesOneOrMore();
        whatCountsIfTheFirstIsNot0();
        noneOrMoreSteps();
        oneComparisonAtMost();
        numberOfOneToFourDigits();
        firstBytes();
        bytesBehindAnOperand();
        noBlanks();
        namesAtTheirEnds();
        currentLeft();
        sixOpenAtMost();
        intsThatWrap();
        towardZero();
        byZero();
        oneOrZero();
        allIsWorkedOut();
        firstLineThatCounts();
        faultOrLength();
        heldWithin();
        withoutText();
        Checks.end("LawEdgesTest");
    }

    private static void faultAt(String text, int want) {
        Checks.due("fault of '" + text + "'", Checks.tell(new OneEarOfTwo(), text), -100 - want);
    }

    private static void stands(String text) {
        Checks.due("'" + text + "' is a text", Checks.tell(new OneEarOfTwo(), text), 1);
    }

    /** What a text gives at PLACE 1 with HUSH 9 and DEEP 0, k 2, minute 5. */
    private static void gives(String text, int want) {
        OneEarOfTwo ear = Checks.withPlaces(0, 1, 1, 1);
        ear.mend(1, 3, 9);
        Checks.due("'" + text + "' is a text", Checks.tell(ear, text), 1);
        Checks.due("'" + text + "' gives", ear.hears(1, 2005), want);
    }

    /** A text of so many bytes (odd), which gives 3. */
    private static String sum(int bytes) {
        return "3" + "+0".repeat(bytes / 2);
    }

    /** "a TEXT by THE TAPE (at most 120 bytes)" */
    private static void tapeOfAtMost120Bytes() {
        OneEarOfTwo ear = Checks.withPlaces(0, 1);
        String most = sum(117) + "+00";
        Checks.due("its length", most.length(), 120);
        for (int i = 0; i < 120; i++) Checks.due("byte " + i, ear.feed(most.charAt(i)), i + 1);
        Checks.due("one byte more", ear.feed('0'), -3);
        Checks.due("THE TAPE has 120", ear.count(1), 120);
        Checks.due("120 bytes", ear.law(), 1);
        Checks.due("THE TAPE is empty then", ear.count(1), 0);
        Checks.due("120 bytes give", ear.hears(0, 0), 3);
        for (int i = 0; i < 120; i++) ear.feed(i == 119 ? '+' : most.charAt(i));
        Checks.due("120 bytes that end too early", ear.law(), -220);
    }

    /** "THE TAPE becomes THE LAW: 1; -100 less its FAULT; THE TAPE is empty then." */
    private static void tapeIsEmptyThen() {
        OneEarOfTwo ear = Checks.withPlaces(0, 1);
        Checks.due("a text", Checks.tell(ear, "7"), 1);
        Checks.due("empty behind a text", ear.count(1), 0);
        Checks.due("the first byte of the next", ear.feed('9'), 1);
        Checks.due("the next", ear.law(), 1);
        Checks.due("the next counts", ear.hears(0, 0), 9);
        Checks.due("a fault", Checks.tell(ear, "9+"), -102);
        Checks.due("empty behind a fault", ear.count(1), 0);
        Checks.due("an empty one", ear.law(), -100);
        Checks.due("the first byte behind it", ear.feed('4'), 1);
        Checks.due("one byte", ear.law(), 1);
        Checks.due("one byte counts", ear.hears(0, 0), 4);
    }

    /** A text with a FAULT does not become THE LAW: that stays, be it a text or none. */
    private static void aFaultLeavesTheLaw() {
        OneEarOfTwo ear = Checks.withPlaces(0, 1);
        Checks.due("a fault ahead of all", Checks.tell(ear, "9;9;"), -104);
        Checks.due("without a text still", ear.hears(0, 0), 5);
        Checks.due("without a text still", ear.hears(0, 180), 1);
        for (String text : new String[] {"h+2", "k=3?8;7"}) {
            int want = text.equals("h+2") ? 7 : 8;
            Checks.due("a law", Checks.tell(ear, text), 1);
            for (String faulty : new String[] {"", "x", "1+1+1+1+", "2?3;4?", "0;0;0;0;0x", "12345"}) {
                Checks.due("a fault", Checks.tell(ear, faulty) <= -100 ? 1 : 0, 1);
                Checks.due("'" + text + "' stays behind '" + faulty + "'", ear.hears(0, 3000), want);
            }
        }
    }

    /** "LINES, one or more, parted by ;" */
    private static void linesOneOrMore() {
        faultAt("", 0);
        stands("1");
        stands("1;2");
        stands("1;2;3");
        stands("1" + ";1".repeat(59));
        faultAt(";", 0);
        faultAt(";1", 0);
        faultAt("1;", 2);
        faultAt("1;;1", 2);
        faultAt("1" + ";1".repeat(59) + ";", 120);
    }

    /** "LINE: E, or E ? E (what counts if the first is not 0)" */
    private static void whatCountsIfTheFirstIsNot0() {
        gives("0?5;7", 7);
        gives("1?5;7", 5);
        gives("2?5;7", 5);
        gives("-1?5;7", 5);
        gives("1?0;7", 0);
        gives("0|1?0|0|6;7", 1);
        gives("0&1?5|6;0|7", 1);
        faultAt("?", 0);
        faultAt("1?", 2);
        faultAt("1??", 2);
        faultAt("1?2?", 3);
        faultAt("1?;2", 2);
        faultAt("(1?2)", 2);
    }

    /** "E = A { | A }. A = B { & B }. .. S = P { + P, - P }. P = O { * O, / O, % O }" */
    private static void noneOrMoreSteps() {
        for (String sign : new String[] {"|", "&", "+", "-", "*", "/", "%"}) {
            stands("1" + sign + "2");
            stands("1" + sign + "2" + sign + "3" + sign + "4");
            faultAt("1" + sign, 2);
            if (!sign.equals("-")) faultAt(sign + "1", 0);
            if (!sign.equals("-")) faultAt("1" + sign + sign + "1", 2);
        }
        gives("9-4-3", 2);
        gives("9/3/3", 1);
        gives("0|0|0|1", 1);
        gives("1&1&1&0", 0);
        // & binds more than |, < more than &, + more than <, * more than +
        gives("1|0&0", 1);
        gives("0&0|1", 1);
        gives("0&2<3", 0);
        gives("3<0+4", 1);
        gives("2+3*2", 8);
        gives("3*2+2", 8);
        gives("9-4+2", 7);
        gives("8/4*2", 4);
    }

    /** "B = S, or S < S, S = S, S > S" */
    private static void oneComparisonAtMost() {
        for (String first : new String[] {"<", "=", ">"}) {
            stands("1" + first + "2");
            faultAt(first + "1", 0);
            faultAt("1" + first, 2);
            for (String second : new String[] {"<", "=", ">"}) {
                faultAt("1" + first + second, 2);
                faultAt("1" + first + "2" + second + "3", 3);
                stands("(1" + first + "2)" + second + "3");
                stands("1" + first + "2&1" + second + "3");
            }
        }
    }

    /** "a number (1 to 4 digits)" */
    private static void numberOfOneToFourDigits() {
        gives("7", 7);
        gives("10", 10);
        gives("011", 11);
        gives("0012", 12);
        gives("9999=9998+1", 1);
        faultAt("00000", 4);
        faultAt("12345", 4);
        faultAt("1+12345", 6);
        faultAt("1+", 2);
    }

    /** "a NAME, ! O, - O, ( E ). .. FAULT: .. the first byte with which no TEXT goes on" */
    private static void firstBytes() {
        for (int letter = 0; letter < 256; letter++) {
            OneEarOfTwo ear = new OneEarOfTwo();
            ear.feed(letter);
            boolean whole = letter >= '0' && letter <= '9' || NAMES.indexOf(letter) >= 0;
            boolean tooShort = letter == '(' || letter == '!' || letter == '-';
            Checks.due("the text of byte " + letter, ear.law(), whole ? 1 : tooShort ? -101 : -100);
        }
    }

    /** The same behind a number of four digits, behind a NAME and behind ). */
    private static void bytesBehindAnOperand() {
        for (String operand : new String[] {"1234", "h", "(1)"}) {
            for (int letter = 0; letter < 256; letter++) {
                OneEarOfTwo ear = new OneEarOfTwo();
                for (int i = 0; i < operand.length(); i++) ear.feed(operand.charAt(i));
                ear.feed(letter);
                boolean goesOn = ";?|&<=>+-*/%".indexOf(letter) >= 0;
                int fault = operand.length() + (goesOn ? 1 : 0);
                Checks.due("'" + operand + "' and byte " + letter, ear.law(), -100 - fault);
            }
        }
    }

    /** "No blanks." */
    private static void noBlanks() {
        faultAt(" 1", 0);
        faultAt("1 ", 1);
        faultAt("1 +1", 1);
        faultAt("1+ 1", 2);
        faultAt("1;\t2", 2);
        faultAt("1\n", 1);
        faultAt("1 2", 1);
    }

    /** "h HUSH, d DEEP, k how many minutes one has listened there ahead, m the minute, .. p the PLACE" */
    private static void namesAtTheirEnds() {
        OneEarOfTwo ear = Checks.withPlaces(0, 1, 0, 1, 0, 1, 0, 1, 0, 1, 0, 1, 0, 1, 0, 1);
        ear.mend(7, 3, 9);
        ear.mend(6, 4, 9);
        ear.mend(5, 3, 0);
        Checks.tell(ear, "h");
        Checks.due("h 9", ear.hears(7, 0), 9);
        Checks.due("h 0", ear.hears(5, 0), 0);
        Checks.due("h 5 at first", ear.hears(6, 0), 5);
        Checks.tell(ear, "d+1");
        Checks.due("d 9", ear.hears(6, 0), 10);
        Checks.due("d 0", ear.hears(7, 0), 1);
        Checks.tell(ear, "k=0?1;k=999?2;3");
        Checks.due("k 0", ear.hears(0, 999), 1);
        Checks.due("k 999", ear.hears(0, 999000), 2);
        Checks.due("k 998", ear.hears(0, 998999), 3);
        Checks.tell(ear, "m=0?1;m=999?2;3");
        Checks.due("m 0", ear.hears(0, 999000), 1);
        Checks.due("m 999", ear.hears(0, 999), 2);
        Checks.due("m 998", ear.hears(0, 999998), 3);
        Checks.tell(ear, "p+1");
        for (int p = 0; p < 8; p++) Checks.due("p " + p, ear.hears(p, 0), p + 1);
    }

    /** "c how many minutes of CURRENT are left as it begins (0: dead)" */
    private static void currentLeft() {
        OneEarOfTwo ear = Checks.withPlaces(0, 1);
        Checks.tell(ear, "c=180?1;c=1?2;c=0?3;4");
        Checks.due("c at minute 0", ear.hears(0, 0), 1);
        Checks.due("c at minute 1", ear.hears(0, 1), 4);
        Checks.due("c in the last minute", ear.hears(0, 179), 2);
        Checks.due("c behind it", ear.hears(0, 180), 3);
        Checks.due("c is not below 0", ear.hears(0, 181), 3);
        Checks.due("c at the last minute of all", ear.hears(0, 999), 3);
        Checks.due("c does not lessen by k", ear.hears(0, 180000), 1);
        ear.mend(0, 6, 0);
        Checks.due("CURRENT 0", ear.hears(0, 0), 3);
        ear.mend(0, 6, 999);
        Checks.due("CURRENT 999 in its last minute", ear.hears(0, 998), 2);
        Checks.due("CURRENT 999 behind it", ear.hears(0, 999), 3);
        Checks.tell(ear, "c=999");
        Checks.due("CURRENT 999", ear.hears(0, 0), 1);
    }

    /** "At most 6 of ( ! - ahead of an O are open at once." */
    private static void sixOpenAtMost() {
        stands("((((((1))))))");
        stands("!!!!!!1");
        stands("------1");
        stands("(!-(!-1))");
        faultAt("(((((((1)))))))", 6);
        faultAt("!!!!!!!1", 6);
        faultAt("-------1", 6);
        faultAt("(!-(!-(1)))", 6);
        faultAt("(!-(!-!1))", 6);
        faultAt("(!-(!--1))", 6);
        // what is closed is open no more: behind an O, and behind )
        stands("------1+------1");
        stands("!!!!!(1)");
        stands("((((((1))))))*((((((1))))))");
        stands("(((((-1+-1+!1)))))");
        faultAt("(((((-1+-1+!!1)))))", 12);
        stands("!!!!!1?!!!!!!1;((((((1))))))");
        faultAt("1?((((((!1", 8);
        // a - between two P is none of them
        stands("((((((1-1-1))))))");
        stands("------1-1");
        faultAt("((((((1--1))))))", 8);
    }

    /** "Ints that wrap" */
    private static void intsThatWrap() {
        gives("9999*9999*21>0", 1);
        gives("9999*9999*22<0", 1);
        gives("9999*9999*21+9999*9999<0", 1);
        gives("0-9999*9999*21-9999*9999>0", 1);
        // the least int: 2048 * 2048 * 512 wraps to it
        gives("2048*2048*512<0", 1);
        gives("2048*2048*512-1>0", 1);
        gives("-(2048*2048*512)<0", 1);
        gives("2048*2048*512/-1<0", 1);
        gives("2048*2048*512%-1=0", 1);
        gives("2048*2048*1024=0", 1);
    }

    /** "/ and % toward 0" */
    private static void towardZero() {
        gives("7/2", 3);
        gives("-7/2+9", 6);
        gives("7/-2+9", 6);
        gives("-7/-2", 3);
        gives("7%4", 3);
        gives("-7%4+9", 6);
        gives("7%-4", 3);
        gives("-7%-4+9", 6);
        gives("-1/2", 0);
    }

    /** "by 0 they give 0" */
    private static void byZero() {
        gives("7/0", 0);
        gives("7%0", 0);
        gives("7/0+5", 5);
        gives("7%0+5", 5);
        gives("0/0+4", 4);
        gives("0%0+4", 4);
        gives("9/d+3", 3);
        gives("9%(h-9)+3", 3);
        gives("2048*2048*512/0+2", 2);
        gives("6/0*0+1", 1);
    }

    /** "| & < = > ! give 1, 0" */
    private static void oneOrZero() {
        gives("5|7", 1);
        gives("5|0", 1);
        gives("0|5", 1);
        gives("0|-5", 1);
        gives("4&-2", 1);
        gives("-5|0", 1);
        gives("0|0", 0);
        gives("2&4", 1);
        gives("-2&4", 1);
        gives("2&0", 0);
        gives("0&2", 0);
        gives("0&0", 0);
        gives("3<4", 1);
        gives("4<4", 0);
        gives("5<4", 0);
        gives("3=4", 0);
        gives("4=4", 1);
        gives("5=4", 0);
        gives("3>4", 0);
        gives("4>4", 0);
        gives("5>4", 1);
        gives("!0", 1);
        gives("!7", 0);
        gives("!-7", 0);
        gives("!!7", 1);
        gives("!0+!0+(2|3)+(2&3)+(1<2)+(2=2)+(2>1)", 7);
        for (String no : new String[] {"(0|0)", "(0&0)", "(1&0)", "(2<1)", "(1=2)", "(1>2)", "!5"}) gives(no + "+7", 7);
        gives("2048*2048*512<2048*2048*512-1", 1);
    }

    /** "all is worked out" */
    private static void allIsWorkedOut() {
        gives("1|1/0", 1);
        gives("0&1/0", 0);
        gives("(1|1/0)+(0&1%0)+4", 5);
        gives("0?1/0;6", 6);
        gives("1?6;1/0", 6);
    }

    /** "The first LINE without a first E, or whose first E is not 0, counts; none: 0." */
    private static void firstLineThatCounts() {
        gives("3;4", 3);
        gives("0;4", 0);
        gives("0?3;4;5", 4);
        gives("0?3;1?4;5", 4);
        gives("0?3;1?0;5", 0);
        gives("0?3", 0);
        gives("0?3;0?4;0?5", 0);
        gives("0?3;0?4;0?5;6", 6);
        gives("0?9" + ";0?9".repeat(28) + ";8", 8);
        gives("0?9" + ";0?9".repeat(29), 0);
    }

    /** "the first byte with which no TEXT goes on; the length, if it ends too early" */
    private static void faultOrLength() {
        faultAt("x1+1", 0);
        faultAt("1+1x", 3);
        faultAt("1+x", 2);
        faultAt("1x+", 1);
        faultAt("1;2;x", 4);
        faultAt("(", 1);
        faultAt("(1", 2);
        faultAt("((1)", 4);
        faultAt("(1+", 3);
        faultAt("()", 1);
        faultAt("1)", 1);
        faultAt("(1))", 3);
        faultAt("!", 1);
        faultAt("-", 1);
        faultAt("0?", 2);
        faultAt("x" + "1".repeat(119), 0);
        faultAt(sum(119) + "x", 119);
    }

    /** "(held within 0 .. 12)" */
    private static void heldWithin() {
        gives("12", 12);
        gives("13", 12);
        gives("9999*9999", 12);
        gives("0", 0);
        gives("-1", 0);
        gives("-9999*9999", 0);
        gives("2048*2048*512-1", 12);
        gives("2048*2048*512", 0);
    }

    private static void bare(int hush, int deep, int minute, int want) {
        OneEarOfTwo ear = Checks.withPlaces(0, 1);
        ear.mend(0, 3, hush);
        ear.mend(0, 4, deep);
        Checks.due("without a text: " + hush + ", " + deep + " at " + minute, ear.hears(0, minute), want);
    }

    /** "Without a text: h less d, if c is above 0, else 1 if d is 0, else 0." */
    private static void withoutText() {
        bare(9, 0, 0, 9);
        bare(9, 1, 179, 8);
        bare(0, 0, 0, 0);
        bare(4, 4, 0, 0);
        bare(4, 5, 0, 0);
        bare(0, 9, 0, 0);
        bare(9, 0, 180, 1);
        bare(0, 0, 180, 1);
        bare(9, 1, 180, 0);
        bare(9, 1, 999, 0);
        bare(9, 0, 999, 1);
    }
}
