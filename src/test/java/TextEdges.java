/** Edges of the tape and of texts: the fourth part of the terms, and promises 22 to 28. */
final class TextEdges {
    private static final int BAD = PalmJury.BAD, FULL = PalmJury.FULL, NONE = PalmJury.NONE;
    private static final int LOW = Acts.LOW, HIGH = Acts.HIGH;

    private TextEdges() {
    }

    private static void right(Due due, String... texts) {
        for (String s : texts) {
            due.is(s, Acts.text(s), 0);
        }
    }

    /** The place of a text's fault. */
    private static void wrong(Due due, int place, String s) {
        PalmJury x = new PalmJury();
        due.is("(" + s + ")", Acts.text(x, s), -100 - place);
        due.row("(" + s + ") leaves nothing", new long[] {0, 0, NONE, NONE, NONE}, x.count(6), x.count(8), x.why(0), x.why(1), x.why(2));
    }

    private static void gives(Due due, int given, String s) {
        due.is(s + " gives", Acts.gives(due, s), given);
    }

    // ---- terms

    @Says(at = "Terms 4", words = "TEXTS, 14 at most, numbered from 0")
    static void fourteenTexts(Due due) {
        PalmJury x = new PalmJury();
        for (int i = 0; i < 14; i++) {
            due.is("number", Acts.text(x, "fee 1"), i);
        }
        due.row("the fifteenth", new long[] {FULL, 14, BAD, 1}, Acts.text(x, "fee 2"), x.count(6), x.textTold(14, 0), x.textTold(13, 0));
    }

    @Says(at = "Terms 4", words = "THE TAPE (96 bytes at most")
    static void ninetySixBytes(Due due) {
        PalmJury x = new PalmJury();
        for (int i = 1; i <= 8; i++) {
            due.is("bytes", x.feed(0, 0, 0), 12 * i);
        }
        due.row("no more", new long[] {FULL, 96}, x.feed(0, 0, 0), x.count(8));
        right(due, "fee" + " ".repeat(92) + "1", " ".repeat(91) + "fee 1", "fee 1" + " ".repeat(91), "fee " + "1+".repeat(45) + "12");
    }

    @Says(at = "Terms 4", words = "an act that reads it uses it up, whatever it answers)")
    static void readingUsesTheTapeUp(Due due) {
        PalmJury x = new PalmJury();
        due.row("a text", new long[] {0, 0}, Acts.text(x, "fee 1"), x.count(8));
        due.row("a fault", new long[] {-104, 0, -100}, Acts.text(x, "fee +"), x.count(8), x.text());
        for (int i = 1; i < 14; i++) {
            Acts.text(x, "fee 1");
        }
        due.row("no room", new long[] {FULL, 0, 12}, Acts.text(x, "fee 1"), x.count(8), x.feed(0, 0, 0));
    }

    @Says(at = "Terms 4", words = "KEY E. KEY: trust | fee | fine.")
    static void keys(Due due) {
        right(due, "trust 1", "fee 1", "fine 1");
        String[] none = {"tru 1", "trus 1", "trusts 1", "fe 1", "feee 1", "fees 1", "fin 1", "fines 1", "f 1", "Fee 1", "1", "(fee 1)", "+", "trustfee 1"};
        for (String s : none) {
            wrong(due, 0, s);
        }
        for (String key : new String[] {"trust", "fee", "fine"}) {
            for (int i = 0; i < key.length(); i++) {
                wrong(due, 0, key.substring(0, i) + "x" + key.substring(i + 1) + " 1");
            }
        }
        wrong(due, 4, "fee fee 1");
        wrong(due, 6, "fee 1 fine 1");
    }

    @Says(at = "Terms 4", words = "E, the loosest first: OR: AND { | AND }; AND: TEST { & TEST }; TEST: SUM [ (< | = | >) SUM ]; SUM: TERM { (+ | -) TERM }; TERM: PIECE { (* | /) PIECE };")
    static void looseAndTight(Due due) {
        gives(due, 1, "1|1&0");
        gives(due, 1, "2&1<2");
        gives(due, 1, "1+1<3");
        gives(due, 7, "1+2*3");
        gives(due, 3, "8-3-2");
        gives(due, 2, "16/4/2");
        gives(due, 6, "9/3*2");
        gives(due, 1, "1|0|0|0");
        gives(due, 0, "1&1&1&0");
        wrong(due, 7, "fee 1<2<3");
        wrong(due, 7, "fee 1=1=1");
        wrong(due, 7, "fee 1>1<1");
        wrong(due, 6, "fee 1<=1");
        wrong(due, 9, "fee 1+1<1>1");
        gives(due, 1, "(1<2)<3");
        gives(due, 4, "(0|1&1)*4");
        gives(due, 1, "1<2&2<3|3<2");
    }

    @Says(at = "Terms 4", words = "PIECE: NUMBER (1 to 4 digits) | NAME | ! PIECE | ( E ).")
    static void oneToFourDigits(Due due) {
        gives(due, 0, "0");
        gives(due, 9, "9");
        gives(due, 9999, "9999");
        gives(due, 1, "0001");
        wrong(due, 4, "fee 10000");
        wrong(due, 4, "fee 00001");
        wrong(due, 5, "fee ()");
        wrong(due, 5, "fee !");
        wrong(due, 4, "fee ");
    }

    @Says(at = "Terms 4", words = "NAMES, each one letter: of trust k how many FACTS it KNOWS, w their WEIGHTS, together, d DOUBT; of fee h THE HOUR, s SLIPS")
    static void names(Due due) {
        String[] keys = {"trust", "fee", "fine"};
        String[] names = {"kwd", "hs", "pb"};
        for (int key = 0; key < 3; key++) {
            for (char letter = 'a'; letter <= 'z'; letter++) {
                boolean is = names[key].indexOf(letter) >= 0;
                due.is(keys[key] + " " + letter, Acts.text(keys[key] + " " + letter), is ? 0 : -101 - keys[key].length());
            }
        }
        wrong(due, 6, "trust kk");
        wrong(due, 4, "fee hs");
        wrong(due, 5, "fine bp+1");
        PalmJury x = Acts.plain(0, 255);
        for (int fact = 0; fact < 8; fact++) {
            x.weigh(fact, -3);
        }
        x.set(1, 3, 40);
        Acts.text(x, "trust k");
        due.row("none and all eight", new long[] {0, 8}, x.told(0, 5), x.told(1, 5));
        Acts.text(x, "trust w+30");
        due.row("weights", new long[] {30, 6}, x.told(0, 5), x.told(1, 5));
        Acts.text(x, "trust d");
        due.row("doubt", new long[] {0, 40}, x.told(0, 5), x.told(1, 5));
        Acts.text(x, "fee h*100+s");
        x.rule(1, 100);
        due.row("hours and slips", new long[] {0, 0, 402}, x.fee(), x.hours(4), x.fee());
        x.rule(1, 0);
        Acts.text(x, "fine p*100+b");
        due.row("passed and doubt", new long[] {2, 0, 240}, x.hours(4), x.fine(0), x.fine(1));
    }

    @Says(at = "Terms 4", words = "(what fee gives is told by fee(); without a TEXT: SLIPS)")
    static void feeWithoutText(Due due) {
        PalmJury x = Acts.plain(0, 0);
        x.rule(1, 100);
        due.row("slips", new long[] {0, 0, 50}, x.fee(), x.hours(100), x.fee());
        Acts.text(x, "fine 7");
        Acts.text(x, "trust 7");
        due.is("texts of other keys", x.fee(), 50);
        Acts.text(x, "fee 7");
        due.is("with a text", x.fee(), 7);
    }

    @Says(at = "Terms 4", words = "of fine p PASSED, b DOUBT (what fine gives for a JUROR is told by fine(); without a TEXT: PASSED).")
    static void fineWithoutText(Due due) {
        PalmJury x = Acts.plain(255, 0);
        due.row("passed", new long[] {0, 8, 8, 0}, x.fine(0), x.hours(20), x.fine(0), x.fine(1));
        Acts.text(x, "fee 7");
        due.is("a text of another key", x.fine(0), 8);
        Acts.text(x, "fine p+b");
        x.set(1, 3, 40);
        due.row("with a text", new long[] {8, 40}, x.fine(0), x.fine(1));
    }

    @Says(at = "Terms 4", words = "A word is a row of letters a .. z, or of digits, as long as it goes; any other byte is a sign by itself.")
    static void bytes(Due due) {
        for (int b = 0; b < 256; b++) {
            char c = (char) b;
            boolean joins = "|&<=>+-*/".indexOf(c) >= 0 || c >= '0' && c <= '9';
            due.is("byte " + b + " between numbers", Acts.text("fee 1" + c + "1"), joins ? 0 : c == ' ' ? -106 : -105);
            due.is("byte " + b + " ahead of a number", Acts.text("fee " + c + "1"),
                c == '!' || c == ' ' || c >= '0' && c <= '9' ? 0 : c == 'h' || c == 's' ? -105 : c == '(' ? -106 : -104);
            due.is("byte " + b + " ahead of all", Acts.text(c + "fee 1"), c == ' ' ? 0 : -100);
            due.is("byte " + b + " behind the key", Acts.text("fee" + c + " 1"), c == ' ' || c == '!' ? 0
                : c >= 'a' && c <= 'z' ? -100 : c == '(' ? -106 : -103);
            due.is("byte " + b + " at the end", Acts.text("fee 1" + c),
                c == ' ' || c >= '0' && c <= '9' ? 0 : joins ? -106 : -105);
        }
    }

    @Says(at = "Terms 4", words = "Between words and signs, and at the ends, there may be blanks (byte 32)")
    static void blanks(Due due) {
        right(due, "fee(1)", "fee!1", "fee  (  1  )  ", "   fee 1", "fee 1+h", "fee 1 + h", " fee ! ! 1 ");
        wrong(due, 5, "fee 1\t");
        wrong(due, 3, "fee\t1");
        wrong(due, 0, "\nfee 1");
        wrong(due, 0, "fe e 1");
        wrong(due, 7, "fee 12 34");
    }

    @Says(at = "Terms 4", words = "a word right behind another one needs one.")
    static void wordBehindWord(Due due) {
        wrong(due, 3, "fee1");
        wrong(due, 5, "trust1");
        wrong(due, 5, "fee 1h");
        wrong(due, 5, "fee h1");
        wrong(due, 8, "fee 1+12h");
        wrong(due, 0, "feeh");
        right(due, "fee 1", "fee h", "fee(1)");
    }

    @Says(at = "Terms 4", words = "FAULT: the first byte of the first word or sign with which no TEXT goes on")
    static void firstFault(Due due) {
        wrong(due, 6, "fee 1 abc");
        wrong(due, 6, "fee 1 2 3 4");
        wrong(due, 0, "fe 12345 (");
        wrong(due, 4, "fee )");
        wrong(due, 5, "fee 1)");
        wrong(due, 5, "fee (+1)");
        wrong(due, 5, "fee (*");
        wrong(due, 6, "fee 1++1");
        wrong(due, 4, "fee -1");
        wrong(due, 5, "fee 1!");
        wrong(due, 5, "fee 1(2)");
        wrong(due, 7, "fee (1)(2)");
        wrong(due, 7, "fee (1 2)");
        wrong(due, 95, "fee " + "1+".repeat(45) + "1)");
    }

    @Says(at = "Terms 4", words = "(a word that needs a blank ahead of it, a NUMBER of more than 4 digits")
    static void fiveDigits(Due due) {
        wrong(due, 4, "fee 12345");
        wrong(due, 9, "fee 9999+10000");
        wrong(due, 5, "fee (99999");
        wrong(due, 6, "trust 123456789012");
        wrong(due, 6, "fee 1+1234567890123456789012345678901234567890");
        wrong(due, 3, "fee12345");
    }

    @Says(at = "Terms 4", words = "the ninth ( that would be open within others")
    static void ninthBracket(Due due) {
        right(due, "fee " + "(".repeat(8) + "1" + ")".repeat(8), "fee " + "(1)+".repeat(12) + "(1)", "fee (" + "((((((( 1)))))))+((((((( 2))))))))");
        wrong(due, 12, "fee " + "(".repeat(9) + "1" + ")".repeat(9));
        wrong(due, 12, "fee " + "(".repeat(90));
        wrong(due, 32, "fee (" + "(((((((1)))))))+(2)+" + "((((((((1)))))))))");
        gives(due, 5, "((((((((5))))))))");
    }

    @Says(at = "Terms 4", words = "the ninth ! likewise")
    static void ninthNot(Due due) {
        right(due, "fee " + "!".repeat(8) + "1", "fee " + "!1+".repeat(12) + "!1", "fee " + "!".repeat(8) + "1+" + "!".repeat(8) + "1");
        wrong(due, 12, "fee " + "!".repeat(9) + "1");
        wrong(due, 12, "fee " + "!".repeat(90));
        wrong(due, 22, "fee " + "!".repeat(8) + "1+" + "!".repeat(9) + "1");
        gives(due, 1, "!!!!!!!!5");
        gives(due, 0, "!!!!!!!5");
    }

    @Says(at = "Terms 4", words = "the ninth ! likewise, each by itself)")
    static void eachByItself(Due due) {
        right(due, "fee " + "(".repeat(8) + "!".repeat(8) + "1" + ")".repeat(8), "fee " + "!".repeat(8) + "(".repeat(8) + "1" + ")".repeat(8),
            "fee " + "!(".repeat(8) + "1" + ")".repeat(8), "fee !(!1)+" + "!".repeat(7) + "(!1)");
        wrong(due, 20, "fee " + "(".repeat(8) + "!".repeat(9) + "1");
        wrong(due, 20, "fee " + "!".repeat(8) + "(".repeat(9) + "1");
        wrong(due, 20, "fee " + "!(".repeat(9) + "1");
        wrong(due, 13, "fee " + "!".repeat(8) + "(!1)");
    }

    @Says(at = "Terms 4", words = "; the end (the place behind the last byte), if it comes too soon.")
    static void endTooSoon(Due due) {
        wrong(due, 0, "");
        wrong(due, 1, " ");
        wrong(due, 96, " ".repeat(96));
        wrong(due, 3, "fee");
        wrong(due, 7, "fee    ");
        wrong(due, 6, "fee 1+");
        wrong(due, 8, "fee 1+  ");
        wrong(due, 5, "fee (");
        wrong(due, 6, "fee (1");
        wrong(due, 8, "fee ((1)");
        wrong(due, 5, "fee !");
        wrong(due, 96, "fee " + "1+".repeat(46));
    }

    @Says(at = "Terms 4", words = "Ints wrap")
    static void intsWrap(Due due) {
        gives(due, -1027349969, "9999*9999*9999");
        gives(due, LOW, "2*1024*1024*1024");
        gives(due, HIGH, "2*1024*1024*1024-1");
        gives(due, LOW, "2*1024*1024*1024-1+1");
        gives(due, LOW, "2*1024*1024*1024/(0-1)");
        gives(due, LOW, "0-2*1024*1024*1024");
        gives(due, 0, "4*1024*1024*1024");
    }

    @Says(at = "Terms 4", words = "/ is 0 by 0")
    static void byZero(Due due) {
        gives(due, 0, "7/0");
        gives(due, 0, "0/0");
        gives(due, 0, "(0-7)/0");
        gives(due, 3, "7/(2-2)+3");
        gives(due, 0, "7/h");
    }

    @Says(at = "Terms 4", words = "tests, & | ! give 1 or 0 (what is not 0 is true; both sides are worked out).")
    static void oneOrZero(Due due) {
        String[] ones = {"1<2", "2=2", "2>1", "5&7", "5|0", "0|5", "!0", "(0-5)&(0-7)", "0|(0-1)", "(0-2)<(0-1)", "1|1/0", "!!9"};
        String[] zeros = {"2<2", "2<1", "2=3", "2>2", "1>2", "0&7", "7&0", "0|0", "!1", "!5", "!(0-1)", "0&1/0", "(0-1)<(0-2)"};
        for (String s : ones) {
            gives(due, 1, s);
        }
        for (String s : zeros) {
            gives(due, 0, s);
        }
    }

    @Says(at = "Terms 4", words = "Of a KEY that TEXT counts that was told last.")
    static void lastCounts(Due due) {
        PalmJury x = new PalmJury();
        due.row("first", new long[] {0, 1}, Acts.text(x, "fee 1"), x.fee());
        due.row("last", new long[] {1, 2}, Acts.text(x, "fee 2"), x.fee());
        due.row("of another key", new long[] {2, 2}, Acts.text(x, "fine 3"), x.fee());
        due.row("a fault", new long[] {-106, 2}, Acts.text(x, "fee 4 4"), x.fee());
        String[] shorter = {"9*(1-2)*3", "2-8*1", "!8", "6"};
        int[] given = {-27, -6, 0, 6};
        for (int i = 0; i < 4; i++) {
            due.row("each shorter than the last", new long[] {3 + i, given[i]}, Acts.text(x, "fee " + shorter[i]), x.fee());
        }
        for (int i = 7; i < 14; i++) {
            Acts.text(x, "trust 1");
        }
        due.row("no room", new long[] {FULL, 6, 6}, Acts.text(x, "fee 5"), x.fee(), x.why(1));
    }

    // ---- promises

    @Says(at = "Promise 22", words = "What fee gives.")
    static void fee(Due due) {
        PalmJury x = new PalmJury();
        due.is("without a text", x.fee(), 0);
        Acts.text(x, "fee h-9999");
        due.is("at first", x.fee(), -9999);
        Acts.toHour(x, 9999);
        due.is("in the last hour", x.fee(), 0);
        Acts.text(x, "fee 0-1000-1000000");
        due.is("a fault is no law", x.fee(), 0);
    }

    @Says(at = "Promise 23", words = "BAD.")
    static void badFine(Due due) {
        PalmJury x = new PalmJury();
        due.each("no jurors", BAD, x.fine(0), x.fine(-1), x.fine(LOW), x.fine(HIGH));
        x.deal(10);
        due.each("beyond", BAD, x.fine(10), x.fine(-1));
        Acts.text(x, "fine 7");
        due.row("with a text", new long[] {7, 7, BAD, BAD}, x.fine(0), x.fine(9), x.fine(10), x.fine(-1));
    }

    @Says(at = "Promise 24", words = "Twelve bytes come to THE TAPE, the highest of each number first: how many it has.")
    static void highestByteFirst(Due due) {
        PalmJury x = new PalmJury();
        due.row("fee 1234 + h", new long[] {12, 0, 1234}, x.feed(0x66656520, 0x31323334, 0x202B2068), x.text(), x.fee());
        due.row("bytes above 127", new long[] {12, -104}, x.feed(0x66656520, 0xFF313233, LOW), x.text());
        due.row("a byte 0", new long[] {12, -105}, x.feed(0x66656520, 0x31000000, 0), x.text());
        x.feed(0x66656520, 0x39000000, 0);
        due.row("behind what it has", new long[] {5, 17, 1, 98}, x.trim(5), x.feed(0x38202020, 0x20202020, 0x20202020), x.text(), x.fee());
    }

    @Says(at = "Promise 24", words = "FULL: it would have more than 96.")
    static void tapeIsFull(Due due) {
        for (int had = 80; had <= 96; had++) {
            PalmJury x = new PalmJury();
            for (int i = 0; i < 8; i++) {
                x.feed(0, 0, 0);
            }
            x.trim(had);
            due.row("had " + had, had <= 84 ? new long[] {had + 12, had + 12} : new long[] {FULL, had}, x.feed(1, 2, 3), x.count(8));
        }
    }

    @Says(at = "Promise 25", words = "THE TAPE keeps its first n bytes: n.")
    static void keepsTheFirst(Due due) {
        PalmJury x = new PalmJury();
        x.feed(0x66656520, 0x31323334, 0x20202020);
        due.row("all", new long[] {12, 12}, x.trim(12), x.count(8));
        due.row("six", new long[] {6, 6, 0, 12}, x.trim(6), x.count(8), x.text(), x.fee());
        x.feed(0, 0, 0);
        due.row("none", new long[] {0, 0, -100}, x.trim(0), x.count(8), x.text());
    }

    @Says(at = "Promise 25", words = "BAD.")
    static void badTrim(Due due) {
        PalmJury x = new PalmJury();
        due.row("an empty tape", new long[] {0, BAD, BAD, BAD, BAD}, x.trim(0), x.trim(1), x.trim(-1), x.trim(LOW), x.trim(HIGH));
        x.feed(0, 0, 0);
        due.row("twelve bytes", new long[] {BAD, BAD, BAD, 12}, x.trim(13), x.trim(-1), x.trim(97), x.count(8));
        x.trim(5);
        due.row("bytes that are gone", new long[] {BAD, 5}, x.trim(6), x.count(8));
        for (int i = 0; i < 7; i++) {
            x.feed(0, 0, 0);
        }
        due.row("89 bytes", new long[] {BAD, BAD, 89}, x.trim(90), x.trim(96), x.trim(89));
    }

    @Says(at = "Promise 26", words = "THE TAPE is a TEXT: its number.")
    static void textNumbers(Due due) {
        PalmJury x = new PalmJury();
        due.row("numbers", new long[] {0, 1, 2}, Acts.text(x, "fee 1"), Acts.text(x, "fee 1"), Acts.text(x, "trust 1"));
        due.row("a fault takes no number", new long[] {-100, 3}, x.text(), Acts.text(x, "fine 1"));
        x.keep();
        due.row("a number again", new long[] {4, 0, 4}, Acts.text(x, "fee 9"), x.back(), Acts.text(x, "fee 8"));
    }

    @Says(at = "Promise 26", words = "-100 less the place of its FAULT")
    static void placeOfFault(Due due) {
        PalmJury x = new PalmJury();
        due.row("first, last, behind the last", new long[] {-100, -195, -196}, Acts.text(x, "x"), Acts.text(x, "fee 1" + " ".repeat(90) + ")"),
            Acts.text(x, "fee (1" + " ".repeat(90)));
        due.row("an empty tape", new long[] {-100, -100}, x.text(), x.text());
    }

    @Says(at = "Promise 26", words = "; FULL.")
    static void textsAreFull(Due due) {
        PalmJury x = new PalmJury();
        for (int i = 0; i < 13; i++) {
            Acts.text(x, "fee 1");
        }
        x.keep();
        due.row("the last", new long[] {13, FULL, FULL, -104, 14}, Acts.text(x, "fee 2"), Acts.text(x, "fee 3"), Acts.text(x, "trust 1"), Acts.text(x, "fee "), x.count(6));
        due.row("what was told stays", new long[] {2, 13, NONE}, x.fee(), x.why(1), x.why(0));
        due.row("room again", new long[] {0, 1, 13, 4}, x.back(), x.fee(), Acts.text(x, "fee 4"), x.fee());
    }

    @Says(at = "Promise 27", words = "Of a TEXT: what 0 KEY (0 trust, 1 fee, 2 fine), 1 how many NUMBERS and NAMES it has.")
    static void toldOfTexts(Due due) {
        PalmJury x = new PalmJury();
        Acts.text(x, "trust k");
        Acts.text(x, "fee !((!(1)))");
        Acts.text(x, "fine " + "1+".repeat(45) + "1");
        due.row("keys", new long[] {0, 1, 2}, x.textTold(0, 0), x.textTold(1, 0), x.textTold(2, 0));
        due.row("numbers and names", new long[] {1, 1, 46}, x.textTold(0, 1), x.textTold(1, 1), x.textTold(2, 1));
        Acts.text(x, "fine p+1*b-20");
        due.row("both", new long[] {4, 1}, x.textTold(3, 1), x.textTold(0, 1));
    }

    @Says(at = "Promise 27", words = "BAD.")
    static void badTextTold(Due due) {
        PalmJury x = new PalmJury();
        due.each("no texts", BAD, x.textTold(0, 0), x.textTold(-1, 0), x.textTold(0, 1));
        x.keep();
        Acts.text(x, "fee 1");
        due.each("no such text", BAD, x.textTold(1, 0), x.textTold(-1, 0), x.textTold(LOW, 0), x.textTold(HIGH, 0));
        due.each("no such thing", BAD, x.textTold(0, -1), x.textTold(0, 2), x.textTold(0, LOW), x.textTold(0, HIGH));
        x.back();
        due.each("gone with the image", BAD, x.textTold(0, 0));
    }

    @Says(at = "Promise 28", words = "The TEXT that counts for a KEY. BAD; NONE.")
    static void why(Due due) {
        PalmJury x = new PalmJury();
        due.each("no such key", BAD, x.why(-1), x.why(3), x.why(LOW), x.why(HIGH));
        due.each("none", NONE, x.why(0), x.why(1), x.why(2));
        Acts.text(x, "fine 1");
        due.row("fine alone", new long[] {NONE, NONE, 0}, x.why(0), x.why(1), x.why(2));
        x.keep();
        Acts.text(x, "trust 1");
        Acts.text(x, "fine 1");
        due.row("the last", new long[] {1, NONE, 2, BAD}, x.why(0), x.why(1), x.why(2), x.why(3));
        x.back();
        due.row("as the image", new long[] {NONE, NONE, 0}, x.why(0), x.why(1), x.why(2));
    }
}
