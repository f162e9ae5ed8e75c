/** Promises 2 feed, 3 end, 4 text, 5 fault. */
public final class TapeTest {
    private static final String HEAD = "goods 2;customer 3;";

    public static void main(String[] args) {
        feedsTwentyBytes();
        endsTheTape();
        readsTexts();
        tellsNoTokens();
        tellsWrongNumbers();
        tellsTooManyLines();
        keepsToSixHundredBytes();
        keepsAllAtAFault();
        forgetsAllAtANewText();
        Checks.finish();
    }

    private static void feedsTwentyBytes() {
        FreshAllotter x = new FreshAllotter();
        for (int i = 1; i <= 32; i++) {
            Checks.due("feed no. " + i, x.feed(0, 0, 0, 0, 0), 20 * i);
        }
        Checks.due("feed of a full tape", x.feed(0, 0, 0, 0, 0), -1);
        Checks.due("bytes of a full tape", x.now(11), 640);
        Checks.due("end(621)", x.end(621), true);
        Checks.due("feed to 641", x.feed(0, 0, 0, 0, 0), -1);
        Checks.due("bytes after it", x.now(11), 621);
        Checks.due("end(620)", x.end(620), true);
        Checks.due("feed to 640", x.feed(0, 0, 0, 0, 0), 640);
        // Of each number the highest byte comes first: "good" "s 1;" "cust" "omer" " 7;\n".
        FreshAllotter y = new FreshAllotter();
        Checks.due("feed", y.feed(0x676f6f64, 0x7320313b, 0x63757374, 0x6f6d6572, 0x20373b0a), 20);
        Checks.due("text of highest bytes first", y.text(), 2);
        Checks.due("customer(0, NONE)", y.customer(0, -1), 7);
        // A negative number has a first byte above 127, which no token has.
        y.feed(0x676f6f64, 0x7320313b, 0xff000000, 0, 0);
        y.end(9);
        Checks.due("text with byte 255", y.text(), -9);
        Checks.due("fault of it", y.fault(), 1);
    }

    private static void endsTheTape() {
        FreshAllotter x = new FreshAllotter();
        Checks.due("end(0) of an empty tape", x.end(0), true);
        Checks.due("end(1) of an empty tape", x.end(1), false);
        x.feed(1, 2, 3, 4, 5);
        Checks.due("end(-1)", x.end(-1), false);
        Checks.due("end of the least int", x.end(Integer.MIN_VALUE), false);
        Checks.due("end(21)", x.end(21), false);
        Checks.due("end of the greatest int", x.end(Integer.MAX_VALUE), false);
        Checks.due("bytes after refused ends", x.now(11), 20);
        Checks.due("end(20)", x.end(20), true);
        Checks.due("end(7)", x.end(7), true);
        Checks.due("bytes after end(7)", x.now(11), 7);
        Checks.due("end(8) after end(7)", x.end(8), false);
        // What stood behind the end is no part of the tape any more.
        FreshAllotter y = new FreshAllotter();
        Checks.feedText(y, "goods 12;");
        y.end(7);
        Checks.due("text() of 'goods 1'", y.text(), -8);
        Checks.due("fault() of 'goods 1'", y.fault(), 1);
    }

    private static void readsTexts() {
        dueText("goods 1;", 1, 0);
        dueText("goods 04;", 1, 0);
        dueText("\n goods\n\n1 ;  ", 1, 0);
        dueText("goods 1;customer 99;customer 0;", 3, 0);
        dueText("goods 1;lot 0 0 1 0;lot 0 99 99 99;", 3, 0);
        dueText(HEAD + "order 0 1 99 99;order 0 0 1 0;", 4, 0);
        dueText(HEAD + "lot 01 09 01 00;order 00 01 09 09;", 4, 0);
        FreshAllotter x = Checks.told(HEAD + "lot 1 50 60 70;order 0 1 80 90;");
        Checks.due("tape after text()", x.now(11), 0);
        Checks.due("lot good", x.lot(0, 0), 1);
        Checks.due("lot expiry", x.lot(0, 1), 50);
        Checks.due("lot left", x.lot(0, 2), 60);
        Checks.due("lot hold", x.lot(0, 3), 70);
        Checks.due("order customer", x.order(0, 0), 0);
        Checks.due("order good", x.order(0, 1), 1);
        Checks.due("order sum", x.order(0, 2), 80);
        Checks.due("order day", x.order(0, 3), 90);
    }

    private static void tellsNoTokens() {
        dueText("", -1, 1);
        dueText("   ", -4, 1);
        dueText("goods", -6, 1);
        dueText("goods 1 ", -9, 1);
        dueText("goods1;", -1, 1);
        dueText("1goods;", -1, 1);
        dueText("good 1;", -1, 1);
        dueText("goodss 1;", -1, 1);
        dueText("goodsa 1;", -1, 1);
        dueText("goodsz 1;", -1, 1);
        dueText("hoods 1;", -1, 1);
        dueText("goodt 1;", -1, 1);
        dueText("goods` 1;", -6, 1);
        dueText("goods{ 1;", -6, 1);
        dueText("goods 1/;", -8, 1);
        dueText("goods 1:;", -8, 1);
        dueText("Goods 1;", -1, 1);
        dueText("\tgoods 1;", -1, 1);
        dueText(";", -1, 1);
        dueText("goods ;", -7, 1);
        dueText("goods x;", -7, 1);
        dueText("goods 100;", -7, 1);
        dueText("goods 001;", -7, 1);
        dueText("goods 1x;", -7, 1);
        dueText("goods 9,", -7, 2);
        dueText("goods 1,", -8, 1);
        dueText("goods 1 1;", -9, 1);
        dueText("goods 1;;", -9, 1);
        dueText("goods 1; 1", -10, 1);
        dueText("goods 1;goods 1;", -9, 1);
        dueText("goods 1;lot 0 1 1 0;customer 1;", -21, 1);
        dueText(HEAD + "order 0 0 1 1;lot 0 1 1 0;", -34, 1);
        dueText(HEAD + "order 0 0 1 1;customer 1;", -34, 1);
        dueText(HEAD + "lot 0 1 1;", -29, 1);
        dueText(HEAD + "lot 0 1 1 0 0;", -32, 1);
        dueText(HEAD + "order 0 0 1 1", -33, 1);
        dueText(HEAD + "customer customer;", -29, 1);
        dueText("goods 1;" + (char) 200, -9, 1);
        dueText("goods 1;" + (char) 0, -9, 1);
        // The end comes as a fault where a line is begun only.
        dueText(HEAD + "lot", -23, 1);
        dueText(HEAD + "lot 0", -25, 1);
    }

    private static void tellsWrongNumbers() {
        dueText("goods 0;", -7, 2);
        dueText("goods 5;", -7, 2);
        dueText("goods  99", -8, 2);
        dueText(HEAD + "lot 2 1 1 0;", -24, 2);
        dueText(HEAD + "lot 0 1 0 0;", -28, 2);
        dueText(HEAD + "lot 0 1 00 0;", -28, 2);
        dueText(HEAD + "lot 0 100 1 0;", -26, 1);
        dueText(HEAD + "order 1 0 1 1;", -26, 2);
        dueText(HEAD + "order 0 2 1 1;", -28, 2);
        dueText(HEAD + "order 0 0 0 1;", -30, 2);
        dueText("goods 1;order 0 0 1 1;", -15, 2);
        dueText(HEAD + "order 0 0 1 1;order 0 0 1 2;", -42, 2);
        dueText(HEAD + "order 0 0 1 1;order 0 1 1 2;", 4, 0);
        // The first along the text counts: the second order's good stands ahead of its wrong sum.
        dueText(HEAD + "order 0 0 1 1;order 0 0 0 1;", -42, 2);
        dueText(HEAD + "order 0 0 1 1;order 0 0", -42, 2);
    }

    private static void tellsTooManyLines() {
        String six = "goods 4;" + "customer 1;".repeat(6);
        dueText(six, 7, 0);
        dueText(six + "customer 1;", -75, 3);
        dueText(six + "customer", -75, 3);
        String lots = "goods 4;" + "lot 0 5 5 0;".repeat(12);
        dueText(lots, 13, 0);
        dueText(lots + "lot 9", -153, 3);
        dueText(lots + "lot9", -153, 1);
        StringBuilder orders = new StringBuilder(six);
        for (int i = 0; i < 12; i++) {
            orders.append("order ").append(i % 6).append(' ').append(i / 6).append(" 1 1;");
        }
        dueText(orders.toString(), 19, 0);
        dueText(orders + "order 0 3 1 1;", -1 - orders.length(), 3);
        // Of one token the fault that stands first: a line that can't come there any more.
        dueText(six + "lot 0 1 1 0;customer 1;", -87, 1);
        dueText(lots + "customer 1;", -153, 1);
        // The full text: 1 and 6 and 12 and 12 lines.
        dueText(six + "lot 0 5 5 0;".repeat(12) + orders.substring(six.length()), 31, 0);
    }

    private static void keepsToSixHundredBytes() {
        String head = "goods 1;";
        String to592 = head + " ".repeat(584);
        dueText(to592 + " ".repeat(8), 1, 0);
        dueText(to592 + " ".repeat(9), -601, 1);
        dueText(to592 + " ".repeat(48), -601, 1);
        // Tokens that begin ahead of byte 600 are read whole.
        dueText(to592 + " ".repeat(7) + "lot 0 1 1 0;", -601, 1);
        dueText(to592 + " ".repeat(7) + "lots", -600, 1);
        dueText(to592 + " ".repeat(5) + "lots", -598, 1);
        dueText(to592 + " ".repeat(8) + "lots", -601, 1);
        dueText("goods" + " ".repeat(594) + "1;", -601, 1);
        dueText("goods" + " ".repeat(594) + "10;", -600, 2);
        dueText("goods" + " ".repeat(594) + "100;", -600, 1);
        dueText("goods" + " ".repeat(594) + "7", -600, 2);
        dueText("goods" + " ".repeat(594) + "1", -601, 1);
        dueText("goods" + " ".repeat(595) + "7;", -601, 1);
        dueText("goods 1;" + "customer 1;".repeat(6) + " ".repeat(526) + "customer 1;", -601, 1);
        dueText("goods 1;" + "customer 1;".repeat(6) + " ".repeat(525) + "customer 1;", -600, 3);
        dueText("goods" + " ".repeat(595), -601, 1);
        dueText("goods" + " ".repeat(600), -601, 1);
        dueText("goods" + " ".repeat(593) + "1;", 1, 0);
        dueText("goods" + " ".repeat(593) + "1;\n", -601, 1);
        // A fault ahead of it counts.
        dueText("goods 5;" + " ".repeat(632), -7, 2);
        dueText("goods 1;" + "customer 1;".repeat(7) + " ".repeat(550), -75, 3);
    }

    private static void keepsAllAtAFault() {
        FreshAllotter x = Checks.told(HEAD + "lot 0 5 9 0;order 0 0 9 1;");
        Checks.due("fault() without one", x.fault(), 0);
        x.reserve(0);
        Checks.due("text() with a fault", Checks.tell(x, "goods 3;customer 1;customer 2;lot 0 7 7 7;lot 5"), -47);
        Checks.due("fault() of it", x.fault(), 2);
        Checks.due("bytes after it", x.now(11), 0);
        Checks.due("goods stay", x.now(1), 2);
        Checks.due("customers stay", x.now(2), 1);
        Checks.due("lots stay", x.now(3), 1);
        Checks.due("orders stay", x.now(4), 1);
        Checks.due("lot stays", x.lot(0, 1), 5);
        Checks.due("what can be undone stays", x.now(10), 1);
        Checks.due("an empty text", x.text(), -1);
        Checks.due("fault() of it", x.fault(), 1);
        Checks.due("undo()", x.undo(), 0);
        Checks.due("fault() stays with undo()", x.fault(), 1);
        Checks.due("text() without a fault", Checks.tell(x, "goods 1;"), 1);
        Checks.due("fault() is 0 again", x.fault(), 0);
    }

    private static void forgetsAllAtANewText() {
        FreshAllotter x = Checks.told("goods 1;customer 0;customer 0;lot 0 9 9 0;lot 0 0 4 0;order 0 0 5 0;order 1 0 4 9;");
        x.reserve(0);
        x.deliver(0);
        x.pass(1);
        Checks.due("waste", x.now(8), 0);
        x.comes(0, 1, 6, 0);
        x.pass(1);
        Checks.due("waste", x.now(8), 6);
        Checks.due("delivered", x.now(9), 5);
        Checks.due("text()", Checks.tell(x, "goods 1;customer 0;lot 0 3 9 0;order 0 0 5 3;"), 4);
        int[] want = {0, 1, 1, 1, 1, 1, 9, 0, 0, 0, 0, 0};
        for (int what = 0; what < want.length; what++) {
            Checks.due("now(" + what + ") after a new text", x.now(what), want[what]);
        }
        Checks.due("latest after a new text", x.customer(0, 0), -1);
        Checks.due("undo() after a new text", x.undo(), -1);
        Checks.due("reserved after a new text", x.reserved(0, 0), 0);
        Checks.due("got after a new text", x.order(0, 6), 0);
    }

    private static void dueText(String text, int want, int kind) {
        FreshAllotter x = new FreshAllotter();
        String told = text.length() > 120 ? text.substring(0, 100) + ".. " + text.length() + " bytes" : text;
        Checks.due("text() of '" + told + "'", Checks.tell(x, text), want);
        Checks.due("fault() of '" + told + "'", x.fault(), kind);
        Checks.due("bytes after '" + told + "'", x.now(11), 0);
    }
}
