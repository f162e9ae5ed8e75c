import java.nio.charset.StandardCharsets;

/** The edges of the terms of a text and of its faults, and of promises 2 feed, 3 end, 4 text, 5 fault: a test a sentence. */
public final class TextEdgesTest {
    private static final int LEAST = Integer.MIN_VALUE;
    private static final int MOST = Integer.MAX_VALUE;
    private static final String HEAD = "goods 2;customer 3;";
    private static final String SIX_CUSTOMERS = "customer 1;".repeat(6);
    private static final String TWELVE_LOTS = "lot 0 5 5 0;".repeat(12);

    public static void main(String[] args) {
        Checks.runAll(TextEdgesTest.class);
    }

    // ---- "TOKENS of a text"

    /** "with blanks (32, 10) between them or not" */
    static void termsBlanksStandBetweenTokensOrNot() {
        dueLines(4, "goods 2;customer 3;lot 0 1 1 0;order 0 0 1 1;");
        dueLines(4, " \n goods\n2 \n ;\n\ncustomer  3\n;lot\n0\n1\n1\n0\n;order 0 0 1 1 ;\n ");
        dueLines(1, "\ngoods 1;");
        dueLines(1, "goods 1;\n");
    }

    /** "blanks (32, 10)": no other byte is one, and none but small letters, digits and ; is of a TOKEN. */
    static void termsNoOtherByteIsABlank() {
        for (int sign = 0; sign < 256; sign++) {
            boolean blank = sign == 32 || sign == 10;
            boolean ofRun = sign >= 'a' && sign <= 'z' || sign >= '0' && sign <= '9';
            if (blank) {
                dueLines(1, "goods" + (char) sign + "1;" + (char) sign);
            } else if (ofRun) {
                dueFault(1, "^goods" + (char) sign + "1;");
                dueFault(1, "goods 1;^" + (char) sign);
            } else {
                dueFault(1, "goods^" + (char) sign + "1;");
                dueFault(1, "goods 1;^" + (char) sign);
            }
        }
    }

    /** "WORDS: small letters" */
    static void termsWordsAreSmallLetters() {
        dueFault(1, "^Goods 1;");
        dueFault(1, "^gooDs 1;");
        dueFault(1, "^GOODS 1;");
        dueFault(1, "goods 1;^Lot 0 1 1 0;");
    }

    /** The WORDS that can come are four: one letter less, more or other is another WORD. */
    static void termsOnlyTheWordsTold() {
        String[] lines = {"goods 1;", "customer 3;", "lot 0 1 1 0;", "order 0 0 1 1;"};
        String[] heads = {"", "goods 1;", "goods 1;customer 3;", "goods 1;customer 3;lot 0 1 1 0;"};
        for (int i = 0; i < lines.length; i++) {
            String line = lines[i];
            int length = line.indexOf(' ');
            dueLines(i + 1, heads[i] + line);
            dueFault(1, heads[i] + "^" + line.substring(1));
            dueFault(1, heads[i] + "^" + line.substring(0, length - 1) + line.substring(length));
            dueFault(1, heads[i] + "^" + line.substring(0, length) + "a" + line.substring(length));
            dueFault(1, heads[i] + "^" + line.substring(0, length) + "z" + line.substring(length));
            for (int at = 0; at < length; at++) {
                char other = (char) (line.charAt(at) + 1);
                dueFault(1, heads[i] + "^" + line.substring(0, at) + other + line.substring(at + 1));
            }
        }
    }

    /** "NUMBERS: 1 or 2 digits" */
    static void termsNumbersHaveOneOrTwoDigits() {
        dueLines(1, "goods 4;");
        dueLines(1, "goods 04;");
        dueFault(1, "goods ^004;");
        dueFault(1, "goods ^100;");
        dueFault(1, "goods ^0000000000000001;");
        dueFault(1, "goods ^4294967297;");
        int[][] told = {{0, 0}, {9, 9}, {0, 9, 9}, {9, 0, 90}, {9, 9, 99}, {1, 0, 10}};
        for (int[] n : told) {
            String number = n.length == 2 ? "" + n[0] : "" + n[0] + n[1];
            FreshAllotter x = Checks.told("goods 1;customer " + number + ";");
            Checks.due("life of 'customer " + number + ";'", x.customer(0, -1), n[n.length - 1]);
        }
    }

    /** "(A WORD, NUMBER goes on as long as small letters and digits do; what is not as told is no TOKEN.)" */
    static void termsAWordGoesOnWithDigits() {
        dueFault(1, "^goods1;");
        dueFault(1, "^g0oods 1;");
        dueFault(1, "^goods9 1;");
        dueFault(1, "goods 1;^lot0 1 1 0;");
    }

    /** "(A WORD, NUMBER goes on as long as small letters and digits do; what is not as told is no TOKEN.)" */
    static void termsANumberGoesOnWithLetters() {
        dueFault(1, "^1goods 1;");
        dueFault(1, "goods ^1a;");
        dueFault(1, "goods ^1z;");
        dueFault(1, "goods ^1a1;");
        dueFault(1, "goods 1;customer ^9lot 0 1 1 0;");
    }

    // ---- "A TEXT"

    /** "A TEXT has at most 600 bytes" */
    static void termsATextHas600BytesAtMost() {
        dueLines(1, filled("goods 1;", 600));
        dueFault(1, filled("goods 1;", 600) + "^ ");
        dueFault(1, filled("goods 1;", 600) + "^" + " ".repeat(40));
        dueLines(1, "goods" + " ".repeat(593) + "1;");
        dueFault(1, "goods" + " ".repeat(594) + "1^;");
    }

    /** "'goods' N ;" comes first, and once. */
    static void termsGoodsComeFirstAndOnce() {
        dueFault(1, "^");
        dueFault(1, "^;");
        dueFault(1, "^1;");
        dueFault(1, "^customer 1;goods 1;");
        dueFault(1, "^lot 0 1 1 0;");
        dueFault(1, "^order 0 0 1 1;");
        dueFault(1, "goods 1;^goods 1;");
        dueFault(1, HEAD + "^goods 1;");
        dueFault(1, HEAD + "lot 0 1 1 0;^goods 1;");
        dueFault(1, HEAD + "order 0 0 1 1;^goods 1;");
    }

    /** "{ 'customer' LIFE ; } { 'lot' .. ; } { 'order' .. ; }": each sort may have no LINE. */
    static void termsASortMayHaveNoLine() {
        dueLines(1, "goods 1;");
        dueLines(2, "goods 1;customer 3;");
        dueLines(2, "goods 1;lot 0 1 1 0;");
        dueLines(3, "goods 1;customer 3;order 0 0 1 1;");
        dueLines(3, "goods 1;customer 3;lot 0 1 1 0;");
    }

    /** "{ 'customer' LIFE ; } { 'lot' .. ; } { 'order' .. ; }": a sort that is over does not come again. */
    static void termsASortDoesNotComeAgain() {
        dueFault(1, HEAD + "lot 0 1 1 0;^customer 1;");
        dueFault(1, HEAD + "order 0 0 1 1;^customer 1;");
        dueFault(1, HEAD + "order 0 0 1 1;^lot 0 1 1 0;");
    }

    /** "N 1 to 4" */
    static void termsGoodsAre1To4() {
        dueFault(2, "goods ^0;");
        dueFault(2, "goods ^00;");
        for (int goods = 1; goods <= 4; goods++) {
            Checks.due("goods", Checks.told("goods " + goods + ";").now(1), goods);
        }
        dueFault(2, "goods ^5;");
        dueFault(2, "goods ^99;");
    }

    /** "GOODS, CUSTOMERS, LOTS, ORDERS are numbered from 0" */
    static void termsNumbersGoFrom0() {
        FreshAllotter x = Checks.told("goods 2;customer 7;customer 8;lot 0 5 6 7;lot 1 8 9 10;order 0 0 11 12;order 1 1 13 14;");
        Checks.due("life of customer 0", x.customer(0, -1), 7);
        Checks.due("life of customer 1", x.customer(1, -1), 8);
        Checks.dueLot(x, 0, 0, 5, 6, 7);
        Checks.dueLot(x, 1, 1, 8, 9, 10);
        Checks.dueOrder(x, 0, 0, 0, 11, 12);
        Checks.dueOrder(x, 1, 1, 1, 13, 14);
    }

    /** "LIFE 0 to 99" */
    static void termsLifeIs0To99() {
        Checks.due("life 0", Checks.told("goods 1;customer 0;").customer(0, -1), 0);
        Checks.due("life 99", Checks.told("goods 1;customer 99;").customer(0, -1), 99);
        dueFault(1, "goods 1;customer ^100;");
    }

    /** "6 CUSTOMERS at most" */
    static void termsSixCustomersAtMost() {
        dueLines(7, "goods 1;" + SIX_CUSTOMERS);
        Checks.due("customers", Checks.told("goods 1;" + SIX_CUSTOMERS).now(2), 6);
        dueFault(3, "goods 1;" + SIX_CUSTOMERS + "^customer 1;");
    }

    /** "GOOD: one there is", of a LOT */
    static void termsALotsGoodIsOneThereIs() {
        for (int goods = 1; goods <= 4; goods++) {
            String head = "goods " + goods + ";lot ";
            dueLines(2, head + "0 1 1 0;");
            dueLines(2, head + (goods - 1) + " 1 1 0;");
            dueFault(2, head + "^" + goods + " 1 1 0;");
        }
        dueFault(2, "goods 1;lot ^99 1 1 0;");
    }

    /** "EXPIRY .. 0 to 99" */
    static void termsALotsExpiryIs0To99() {
        Checks.due("expiry 0", Checks.told("goods 1;lot 0 0 1 5;").lot(0, 1), 0);
        Checks.due("expiry 99", Checks.told("goods 1;lot 0 99 1 5;").lot(0, 1), 99);
        dueFault(1, "goods 1;lot 0 ^100 1 5;");
    }

    /** "SUM 1 to 99", of a LOT */
    static void termsALotsSumIs1To99() {
        dueFault(2, "goods 1;lot 0 5 ^0 5;");
        dueFault(2, "goods 1;lot 0 5 ^00 5;");
        Checks.due("sum 1", Checks.told("goods 1;lot 0 5 1 5;").lot(0, 2), 1);
        Checks.due("sum 99", Checks.told("goods 1;lot 0 5 99 5;").lot(0, 2), 99);
        dueFault(1, "goods 1;lot 0 5 ^100 5;");
    }

    /** "HOLD 0 to 99" */
    static void termsALotsHoldIs0To99() {
        Checks.due("hold 0", Checks.told("goods 1;lot 0 5 1 0;").lot(0, 3), 0);
        Checks.due("hold 99", Checks.told("goods 1;lot 0 5 1 99;").lot(0, 3), 99);
        dueFault(1, "goods 1;lot 0 5 1 ^100;");
    }

    /** "12 LOTS at most" */
    static void termsTwelveLotsAtMost() {
        dueLines(13, "goods 1;" + TWELVE_LOTS);
        Checks.due("lots", Checks.told("goods 1;" + TWELVE_LOTS).now(3), 12);
        dueFault(3, "goods 1;" + TWELVE_LOTS + "^lot 0 5 5 0;");
    }

    /** "CUSTOMER: one there is" */
    static void termsAnOrdersCustomerIsOneThereIs() {
        dueFault(2, "goods 1;order ^0 0 1 1;");
        for (int customers = 1; customers <= 6; customers++) {
            String head = "goods 1;" + "customer 1;".repeat(customers) + "order ";
            dueLines(customers + 2, head + "0 0 1 1;");
            dueLines(customers + 2, head + (customers - 1) + " 0 1 1;");
            dueFault(2, head + "^" + customers + " 0 1 1;");
        }
        dueFault(2, HEAD + "order ^99 0 1 1;");
    }

    /** "GOOD: one there is", of an ORDER */
    static void termsAnOrdersGoodIsOneThereIs() {
        for (int goods = 1; goods <= 4; goods++) {
            String head = "goods " + goods + ";customer 1;order 0 ";
            dueLines(3, head + "0 1 1;");
            dueLines(3, head + (goods - 1) + " 1 1;");
            dueFault(2, head + "^" + goods + " 1 1;");
        }
        dueFault(2, HEAD + "order 0 ^99 1 1;");
    }

    /** "SUM 1 to 99", of an ORDER */
    static void termsAnOrdersSumIs1To99() {
        dueFault(2, HEAD + "order 0 0 ^0 5;");
        dueFault(2, HEAD + "order 0 0 ^00 5;");
        Checks.due("sum 1", Checks.told(HEAD + "order 0 0 1 5;").order(0, 2), 1);
        Checks.due("sum 99", Checks.told(HEAD + "order 0 0 99 5;").order(0, 2), 99);
        dueFault(1, HEAD + "order 0 0 ^100 5;");
    }

    /** "DAY 0 to 99" */
    static void termsAnOrdersDayIs0To99() {
        Checks.due("day 0", Checks.told(HEAD + "order 0 0 5 0;").order(0, 3), 0);
        Checks.due("day 99", Checks.told(HEAD + "order 0 0 5 99;").order(0, 3), 99);
        dueFault(1, HEAD + "order 0 0 5 ^100;");
    }

    /** "no second ORDER of a CUSTOMER for a GOOD" */
    static void termsNoSecondOrderForAGood() {
        String head = "goods 2;customer 3;customer 3;order 0 0 1 1;";
        dueFault(2, head + "order 0 ^0 2 2;");
        dueFault(2, head + "order 1 0 1 1;order 0 1 1 1;order 0 ^0 2 2;");
        dueLines(5, head + "order 0 1 1 1;");
        dueLines(5, head + "order 1 0 1 1;");
    }

    /** "12 ORDERS at most" */
    static void termsTwelveOrdersAtMost() {
        String twelve = "goods 3;" + SIX_CUSTOMERS + orders(12);
        dueLines(19, twelve);
        Checks.due("orders", Checks.told(twelve).now(4), 12);
        dueFault(3, twelve + "^order 0 2 1 1;");
    }

    // ---- "FAULTS"

    /** "the first along the text": whatever its kind */
    static void termsTheFirstFaultAlongTheText() {
        dueFault(2, "goods ^5;x");
        dueFault(2, "goods ^5,");
        dueFault(2, "goods 1;lot ^1 1 0 0;lot");
        dueFault(2, HEAD + "order 0 0 1 1;order 0 ^0 0 100;");
        dueFault(3, "goods 1;" + SIX_CUSTOMERS + "^customer ; lot 9 9 9 9; x");
        dueFault(1, "goods ^x 5;lot 9 9 9 9;");
    }

    /** "(of one TOKEN the one that stands first in this list)" */
    static void termsOfOneTokenTheFaultThatStandsFirst() {
        // One LINE more than told, and a WORD that can't come there.
        dueFault(1, "goods 1;" + SIX_CUSTOMERS + "lot 0 1 1 0;^customer 1;");
        dueFault(1, "goods 1;customer 1;" + TWELVE_LOTS + "order 0 0 1 1;^lot 0 1 1 0;");
        dueFault(1, "goods 1;" + SIX_CUSTOMERS + "^customer1;");
        // Too great a number, and no TOKEN.
        dueFault(1, "goods ^500;");
        // A number that is not as told, and the first of a second ORDER's: both are of kind 2, at the GOOD.
        dueFault(2, HEAD + "order 0 0 1 1;order 0 ^2 1 1;");
    }

    /** "1 no TOKEN, or one that can't come (at it" */
    static void termsATokenThatCannotCome() {
        dueFault(1, "goods ^;");
        dueFault(1, "goods ^goods;");
        dueFault(1, "goods 1^,");
        dueFault(1, "goods 1 ^1;");
        dueFault(1, "goods 1 ^lot 0 1 1 0;");
        dueFault(1, "goods 1;^;");
        dueFault(1, "goods 1; ^7;");
        dueFault(1, HEAD + "customer ^customer;");
        dueFault(1, HEAD + "customer 1 ^1;");
        dueFault(1, HEAD + "lot ^;");
        dueFault(1, HEAD + "lot 0 1 1^;");
        dueFault(1, HEAD + "lot 0 1 1 0 ^0;");
        dueFault(1, HEAD + "order 0 0 1^;");
        dueFault(1, HEAD + "order 0 0 1 1 ^1;");
        dueFault(1, HEAD + "order 0 0 1 1 ^order 0 1 1 1;");
    }

    /** "the end: how many bytes there are" */
    static void termsTheEndComesTooSoon() {
        dueFault(1, "   ^");
        dueFault(1, "goods^");
        dueFault(1, "goods \n ^");
        dueFault(1, "goods 1^");
        dueFault(1, "goods 1 ^");
        dueFault(1, HEAD + "customer^");
        dueFault(1, HEAD + "customer 1^");
        dueFault(1, HEAD + "lot^");
        dueFault(1, HEAD + "lot 0^");
        dueFault(1, HEAD + "lot 0 1^");
        dueFault(1, HEAD + "lot 0 1 1^");
        dueFault(1, HEAD + "lot 0 1 1 0^");
        dueFault(1, HEAD + "order 0 0 1 1  ^");
        dueFault(1, filled("goods 1", 600) + "^");
    }

    /** "600, if there are more and no FAULT is ahead" */
    static void termsMoreThan600BytesAreAFaultAt600() {
        dueFault(1, filled("goods 1;", 600) + "^customer 1;");
        dueFault(1, filled("goods 1;", 600) + "^lots");
        dueFault(1, filled("goods 1", 600) + "^;");
        dueFault(1, filled("goods", 600) + "^7;");
        dueFault(1, filled("goods", 600) + "^ ");
        dueFault(1, filled("goods 1;lot 0 0", 600) + "^1 0;");
        dueFault(1, filled("goods 1;customer 0;order 0 0", 600) + "^1 1;");
        dueFault(1, filled("", 600) + "^" + " ".repeat(40));
        dueFault(1, filled("goods 1;" + SIX_CUSTOMERS, 600) + "^customer 1;");
    }

    /** "600, if there are more and no FAULT is ahead": one that is ahead is told. */
    static void termsAFaultAheadOf600IsTold() {
        dueFault(2, "goods ^5;" + " ".repeat(632));
        dueFault(1, filled("goods 1;", 599) + "^, ");
        dueFault(1, filled("goods 1", 599) + "^1;");
        dueFault(3, filled("goods 1;" + SIX_CUSTOMERS, 591) + "^customer 1;");
    }

    /** "TOKENS that begin ahead of it are read whole" */
    static void termsATokenAcross600IsReadWhole() {
        // A WORD that is one told only as a whole, or is none only as a whole.
        dueFault(1, filled("goods 1;", 598) + "lo^t 0 1 1 0;");
        dueFault(1, filled("goods 1;", 597) + "^lots 0 1 1 0;");
        dueFault(1, filled("goods 1;", 599) + "^lots 0 1 1 0;");
        dueFault(3, filled("goods 1;" + SIX_CUSTOMERS, 599) + "^customer 1;");
        // A NUMBER of which the second and third digit stand behind.
        dueFault(2, filled("goods", 599) + "^10;");
        dueFault(1, filled("goods", 599) + "^100;");
        dueFault(2, filled("goods", 599) + "^7 ");
        dueFault(1, filled("goods 1;customer", 599) + "1^2;");
        dueFault(1, filled("goods 1", 599) + ";^customer 1;");
    }

    /** "2 a NUMBER that is not as told .. (at it)" */
    static void termsAWrongNumberIsToldAtIt() {
        dueFault(2, "goods \n  ^9;");
        dueFault(2, "goods ^09;");
        dueFault(2, HEAD + "lot  ^2 1 1 0;");
        dueFault(2, HEAD + "lot 0 1  ^0 0;");
        dueFault(2, HEAD + "order ^1 0 1 1;");
        dueFault(2, HEAD + "order 0 0\n^0 1;");
    }

    /** "3 one more LINE of a sort than told (at its WORD)": whatever comes behind the WORD. */
    static void termsOneMoreLineIsToldAtItsWord() {
        dueFault(3, "goods 1;" + SIX_CUSTOMERS + " ^customer");
        dueFault(3, "goods 1;" + TWELVE_LOTS + "\n^lot 9");
        dueFault(3, "goods 3;" + SIX_CUSTOMERS + orders(12) + "^order ;");
    }

    // ---- promise 2

    /** "Twenty bytes come behind the tape .. how many it has" */
    static void promise2TwentyBytesComeBehind() {
        FreshAllotter x = new FreshAllotter();
        for (int i = 1; i <= 32; i++) {
            Checks.due("feed no. " + i, x.feed(0, 0, 0, 0, 0), 20 * i);
        }
        FreshAllotter y = new FreshAllotter();
        Checks.feedText(y, "goods 1;customer 12;");
        Checks.feedText(y, "customer 34;        ");
        Checks.due("text()", y.text(), 3);
        Checks.due("of the second twenty bytes", y.customer(1, -1), 34);
    }

    /** "of each number the highest first" */
    static void promise2OfEachNumberTheHighestByteFirst() {
        FreshAllotter x = new FreshAllotter();
        // "good" "s 1;" "cust" "omer" " 7;\n"
        x.feed(0x676f6f64, 0x7320313b, 0x63757374, 0x6f6d6572, 0x20373b0a);
        Checks.due("text()", x.text(), 2);
        Checks.due("life", x.customer(0, -1), 7);
    }

    /** "of each number the highest first": numbers below 0 and the greatest one are four bytes too. */
    static void promise2AnyNumberIsFourBytes() {
        int[] strange = {-1, LEAST, MOST, 0x80808080, 0xffffff00};
        for (int number : strange) {
            FreshAllotter x = new FreshAllotter();
            Checks.due("feed of " + number, x.feed(number, number, number, number, number), 20);
            Checks.due("text()", x.text(), -1);
            Checks.due("fault()", x.fault(), 1);
        }
        // The lowest byte is a blank, the three above it are cut off by no sign.
        FreshAllotter y = new FreshAllotter();
        y.feed(0x676f6f64, 0x7320313b, 0x20202020, 0x2020ff20, 0x20202020);
        Checks.due("text() with byte 255", y.text(), -1 - 14);
    }

    /** "NONE .. if it would have more than 640" */
    static void promise2NoneBeyond640Bytes() {
        FreshAllotter x = fed(640);
        Checks.due("feed of a full tape", x.feed(0, 0, 0, 0, 0), -1);
        Checks.due("end(621)", x.end(621), true);
        Checks.due("feed to 641", x.feed(0, 0, 0, 0, 0), -1);
        Checks.due("end(620)", x.end(620), true);
        Checks.due("feed to 640", x.feed(0, 0, 0, 0, 0), 640);
    }

    /** "NONE, and none come" */
    static void promise2NoneComeWithARefusedFeed() {
        FreshAllotter x = fed(640);
        x.feed(1, 2, 3, 4, 5);
        Checks.due("bytes of a full tape", x.now(11), 640);
        x.end(639);
        x.feed(1, 2, 3, 4, 5);
        Checks.due("bytes after a refused feed", x.now(11), 639);
        FreshAllotter y = new FreshAllotter();
        Checks.feedText(y, filled("goods 1;", 639));
        y.feed(1, 2, 3, 4, 5);
        y.end(600);
        Checks.due("text() after a refused feed", y.text(), 1);
    }

    // ---- promise 3

    /** "The tape has its first n bytes alone: true" */
    static void promise3TheFirstBytesStay() {
        FreshAllotter x = fed(40);
        Checks.due("end(40) of 40", x.end(40), true);
        Checks.due("bytes", x.now(11), 40);
        Checks.due("end(39) of 40", x.end(39), true);
        Checks.due("bytes", x.now(11), 39);
        Checks.due("end(0)", x.end(0), true);
        Checks.due("bytes", x.now(11), 0);
        Checks.due("end(0) of an empty tape", x.end(0), true);
    }

    /** "its first n bytes alone": what stood behind is gone, and what is fed comes behind the n-th. */
    static void promise3WhatStoodBehindIsGone() {
        FreshAllotter x = new FreshAllotter();
        Checks.feedText(x, "goods 12;");
        x.end(7);
        Checks.due("text() of 'goods 1'", x.text(), -8);
        Checks.feedText(x, "goods 1xxxxxxxxxxxxxxx");
        x.end(7);
        Checks.feedText(x, ";");
        Checks.due("text() of 'goods 1' and ';'", x.text(), 1);
    }

    /** "false, if it has not so many" */
    static void promise3FalseIfItHasNotSoMany() {
        FreshAllotter x = new FreshAllotter();
        Checks.due("end(1) of an empty tape", x.end(1), false);
        x.feed(1, 2, 3, 4, 5);
        Checks.due("end(21) of 20", x.end(21), false);
        Checks.due("end(640) of 20", x.end(640), false);
        Checks.due("end of the greatest", x.end(MOST), false);
        Checks.due("bytes", x.now(11), 20);
        x.end(7);
        Checks.due("end(8) of 7", x.end(8), false);
        Checks.due("bytes", x.now(11), 7);
        Checks.due("end(641) of 640", fed(640).end(641), false);
    }

    /** "false, if .. n is below 0" */
    static void promise3FalseBelow0() {
        FreshAllotter x = fed(20);
        Checks.due("end(-1)", x.end(-1), false);
        Checks.due("end of the least", x.end(LEAST), false);
        Checks.due("bytes", x.now(11), 20);
        Checks.due("end(-1) of an empty tape", new FreshAllotter().end(-1), false);
    }

    // ---- promise 4

    /** "The tape (empty then" */
    static void promise4TheTapeIsEmptyThen() {
        FreshAllotter x = new FreshAllotter();
        Checks.feedText(x, "goods 1;");
        Checks.due("text()", x.text(), 1);
        Checks.due("bytes", x.now(11), 0);
        Checks.due("text() again", x.text(), -1);
        Checks.due("goods", x.now(1), 1);
    }

    /** "(empty then, even with a FAULT)" */
    static void promise4TheTapeIsEmptyEvenWithAFault() {
        for (String text : new String[] {"x", "goods 5;", filled("goods 1;", 640), "goods 1;" + SIX_CUSTOMERS + "customer 1;"}) {
            FreshAllotter x = new FreshAllotter();
            Checks.feedText(x, text);
            Checks.due("text() is one with a fault", x.text() < 0, true);
            Checks.due("bytes", x.now(11), 0);
            Checks.due("text() of a sound text after it", Checks.tell(x, "goods 1;"), 1);
        }
    }

    /** "how many LINES": 1 at least, 31 at most. */
    static void promise4HowManyLines() {
        dueLines(1, "goods 4;");
        dueLines(31, "goods 4;" + SIX_CUSTOMERS + TWELVE_LOTS + orders(12));
    }

    /** "-1 less the place of a FAULT": from -1 to -601. */
    static void promise4LessThePlaceOfAFault() {
        Checks.due("text() of an empty tape", new FreshAllotter().text(), -1);
        Checks.due("text() of 'x'", Checks.tell(new FreshAllotter(), "x"), -1);
        Checks.due("text() of ' x'", Checks.tell(new FreshAllotter(), " x"), -2);
        Checks.due("text() of 640 bytes", Checks.tell(new FreshAllotter(), filled("goods 1;", 640)), -601);
    }

    /** "all stays" with a FAULT, wherever it stands. */
    static void promise4AllStaysWithAFault() {
        String whole = "goods 4;customer 9;customer 8;lot 3 2 1 0;lot 2 3 4 5;order 1 3 9 9;order 0 2 7 7;";
        for (int length = 0; length < whole.length(); length++) {
            if (length == 0 || whole.charAt(length - 1) != ';') {
                FreshAllotter x = busy();
                FreshAllotter twin = busy();
                Checks.due("a text cut at " + length + " has a fault", Checks.tell(x, whole.substring(0, length)) < 0, true);
                twin.text();
                // Both had a FAULT of kind 1: the twin's tape was empty.
                Snapshot.dueLike("a text cut at " + length, x, twin);
                Checks.due("undo()", x.undo(), twin.undo());
                Snapshot.dueLike("undo() after a text cut at " + length, x, twin);
            }
        }
    }

    // ---- promise 5

    /** "0 .. ahead of any" */
    static void promise5ZeroAheadOfAnyText() {
        FreshAllotter x = new FreshAllotter();
        Checks.due("fault() of a new object", x.fault(), 0);
        Checks.feedText(x, "x");
        Checks.due("fault() ahead of text()", x.fault(), 0);
    }

    /** "The kind of the FAULT of the latest text(); 0 without one" */
    static void promise5TheKindOfTheLatest() {
        FreshAllotter x = new FreshAllotter();
        Checks.tell(x, "goods 5;");
        Checks.due("fault()", x.fault(), 2);
        Checks.tell(x, "goods 1;" + SIX_CUSTOMERS + "customer 1;");
        Checks.due("fault()", x.fault(), 3);
        x.text();
        Checks.due("fault() of an empty tape", x.fault(), 1);
        Checks.tell(x, "goods 1;");
        Checks.due("fault() without one", x.fault(), 0);
        Checks.tell(x, "goods 0;");
        Checks.due("fault()", x.fault(), 2);
    }

    /** "of the latest text()": no other call changes it. */
    static void promise5NoOtherCallChangesIt() {
        FreshAllotter x = busy();
        Checks.tell(x, "goods 0;");
        Checks.feedText(x, "xx");
        x.end(1);
        x.comes(0, 9, 9, 9);
        x.reserve(0);
        x.pass(1);
        x.undo();
        Checks.due("fault()", x.fault(), 2);
    }

    // ---- "A new TEXT"

    /** "A new TEXT: DAY 0" */
    static void termsANewTextBeginsOnDay0() {
        Checks.due("today", toldAnew().now(0), 0);
    }

    /** "A new TEXT: .. nothing RESERVED" */
    static void termsANewTextHasNothingReserved() {
        FreshAllotter x = toldAnew();
        Checks.due("reserved in all", x.now(7), 0);
        Checks.due("reserved of a lot", x.lot(0, 4), 0);
        Checks.due("reserved for an order", x.order(0, 5), 0);
        Checks.due("reserved(0, 0)", x.reserved(0, 0), 0);
    }

    /** "A new TEXT: .. no WASTE" */
    static void termsANewTextHasNoWaste() {
        Checks.due("waste", toldAnew().now(8), 0);
    }

    /** "A new TEXT: .. nothing can be undone" */
    static void termsANewTextCannotBeUndone() {
        FreshAllotter x = toldAnew();
        Checks.due("what can be undone", x.now(10), 0);
        Checks.due("undo()", x.undo(), -1);
        Checks.due("goods", x.now(1), 1);
        x.pass(1);
        Checks.due("undo() of an act behind it", x.undo(), 0);
        Checks.due("undo() once more", x.undo(), -1);
    }

    /** What a new TEXT does not tell is as at first: LATEST, what was delivered, lots and orders of the old one. */
    static void termsANewTextBeginsAnew() {
        FreshAllotter x = toldAnew();
        Checks.due("customers", x.now(2), 2);
        Checks.due("lots", x.now(3), 1);
        Checks.due("orders", x.now(4), 1);
        Checks.due("open ones", x.now(5), 1);
        Checks.due("left", x.now(6), 9);
        Checks.due("delivered", x.now(9), 0);
        Checks.due("latest", x.customer(1, 0), -1);
        Checks.due("got", x.order(0, 6), 0);
        Checks.dueThrowsOfLot(x, 1, 0);
        Checks.dueThrowsOfOrder(x, 1, 0);
        Checks.due("what suits", x.suits(0, 0), true);
        Checks.due("plan", x.plan(-1, 0), 9);
        Checks.due("waste(0, 99)", x.waste(0, 99), 9);
        Checks.due("least(0, 99)", x.least(0, 99), 0);
        Checks.due("asks() again", x.asks(0, 0, 1, 1), -2);
    }

    // ---- what the tests share

    /** The text must be sound, and have so many lines. */
    private static void dueLines(int lines, String text) {
        FreshAllotter x = new FreshAllotter();
        Checks.due("text() of '" + shown(text) + "'", Checks.tell(x, text), lines);
        Checks.due("fault() of '" + shown(text) + "'", x.fault(), 0);
    }

    /** The text must have a fault of this kind where the sign ^ stands, which is no part of it. */
    private static void dueFault(int kind, String text) {
        int place = text.indexOf('^');
        FreshAllotter x = new FreshAllotter();
        int answer = Checks.tell(x, text.substring(0, place) + text.substring(place + 1));
        Checks.due("text() of '" + shown(text) + "'", answer, -1 - place);
        Checks.due("fault() of '" + shown(text) + "'", x.fault(), kind);
    }

    private static String shown(String text) {
        return text.replaceAll(" {9,}", " .. ");
    }

    private static String filled(String text, int length) {
        return text + " ".repeat(length - text.getBytes(StandardCharsets.ISO_8859_1).length);
    }

    /** So many orders of six customers, for goods from 0 on. */
    private static String orders(int count) {
        StringBuilder text = new StringBuilder();
        for (int i = 0; i < count; i++) {
            text.append("order ").append(i % 6).append(' ').append(i / 6).append(" 1 1;");
        }
        return text.toString();
    }

    private static FreshAllotter fed(int bytes) {
        FreshAllotter x = new FreshAllotter();
        for (int i = 0; i < bytes / 20; i++) {
            x.feed(0, 0, 0, 0, 0);
        }
        return x;
    }

    /** An object with something of all that a text takes away. */
    private static FreshAllotter busy() {
        FreshAllotter x = Checks.told("goods 2;customer 1;customer 0;lot 0 9 9 0;lot 0 8 7 0;lot 1 0 4 0;"
                + "order 1 0 5 0;order 0 0 4 5;order 0 1 3 2;");
        x.reserve(0);
        x.deliver(0);
        x.pass(1);
        Checks.due("waste", x.now(8), 4);
        Checks.due("delivered", x.now(9), 5);
        Checks.due("reserved", x.now(7), 4);
        Checks.due("reserved(0, 1)", x.reserved(0, 1), 2);
        Checks.due("latest", x.customer(1, 0), 8);
        // What would() and slack() try out leaves nothing behind for a text either.
        Checks.due("would()", x.would(1, 0, 99, 9), 7);
        Checks.due("slack(1)", x.slack(1), 0);
        return x;
    }

    private static FreshAllotter toldAnew() {
        FreshAllotter x = busy();
        Checks.due("text()", Checks.tell(x, "goods 1;customer 0;customer 0;lot 0 3 9 0;order 0 0 50 3;"), 5);
        return x;
    }
}
