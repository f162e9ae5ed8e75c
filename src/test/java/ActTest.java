/** Promises 17 comes, 18 asks, 19 reserve, 20 cancel, 21 hold, 22 deliver, 23 pass, 24 undo. */
public final class ActTest {
    private static final int LEAST = Integer.MIN_VALUE;
    private static final int MOST = Integer.MAX_VALUE;

    public static void main(String[] args) {
        takesLots();
        takesOrders();
        reservesByThePlan();
        cancelsOrders();
        holdsLots();
        deliversOrders();
        passesDays();
        undoesActs();
        changesNothingWhenRefusing();
        Checks.finish();
    }

    private static void takesLots() {
        FreshAllotter x = Checks.told("goods 2;");
        x.pass(3);
        int[][] refused = {{2, 5, 1, 0}, {-1, 5, 1, 0}, {0, 2, 1, 0}, {0, 103, 1, 0}, {0, 5, 0, 0}, {0, 5, 100, 0},
            {0, 5, 1, -1}, {0, 5, 1, 1000}, {LEAST, 5, 1, 0}, {MOST, 5, 1, 0}, {0, LEAST, 1, 0}, {0, MOST, 1, 0},
            {0, 5, LEAST, 0}, {0, 5, MOST, 0}, {0, 5, 1, LEAST}, {0, 5, 1, MOST}};
        for (int[] n : refused) {
            Checks.due("comes" + java.util.Arrays.toString(n), x.comes(n[0], n[1], n[2], n[3]), -1);
        }
        Checks.due("lots after refused ones", x.now(3), 0);
        Checks.due("comes(0, 3, 1, 0)", x.comes(0, 3, 1, 0), 0);
        Checks.due("comes(1, 102, 99, 999)", x.comes(1, 102, 99, 999), 1);
        Checks.due("good", x.lot(1, 0), 1);
        Checks.due("expiry", x.lot(1, 1), 102);
        Checks.due("left", x.lot(1, 2), 99);
        Checks.due("hold", x.lot(1, 3), 999);
        for (int lot = 2; lot < 24; lot++) {
            Checks.due("comes no. " + lot, x.comes(0, 9, 1, 0), lot);
        }
        Checks.due("comes when there are 24", x.comes(0, 9, 1, 0), -2);
        Checks.due("comes wrongly when there are 24", x.comes(0, 9, 0, 0), -1);
        Checks.due("what can be undone", x.now(10), 10);
        x.undo();
        Checks.due("comes after undo()", x.comes(1, 10, 2, 1), 23);
        Checks.due("expiry of it", x.lot(23, 1), 10);
    }

    private static void takesOrders() {
        FreshAllotter x = Checks.told("goods 2;customer 1;customer 2;");
        x.pass(3);
        int[][] refused = {{2, 0, 1, 5}, {-1, 0, 1, 5}, {0, 2, 1, 5}, {0, -1, 1, 5}, {0, 0, 0, 5}, {0, 0, 100, 5},
            {0, 0, 1, 2}, {0, 0, 1, 103}, {LEAST, 0, 1, 5}, {MOST, 0, 1, 5}, {0, LEAST, 1, 5}, {0, MOST, 1, 5},
            {0, 0, LEAST, 5}, {0, 0, MOST, 5}, {0, 0, 1, LEAST}, {0, 0, 1, MOST}};
        for (int[] n : refused) {
            Checks.due("asks" + java.util.Arrays.toString(n), x.asks(n[0], n[1], n[2], n[3]), -1);
            Checks.due("would" + java.util.Arrays.toString(n), x.would(n[0], n[1], n[2], n[3]), -1);
        }
        Checks.due("asks(0, 0, 1, 3)", x.asks(0, 0, 1, 3), 0);
        Checks.due("asks(1, 0, 99, 102)", x.asks(1, 0, 99, 102), 1);
        Checks.due("asks(0, 1, 5, 5)", x.asks(0, 1, 5, 5), 2);
        Checks.due("asks again", x.asks(0, 0, 1, 4), -2);
        Checks.due("asks again wrongly", x.asks(0, 0, 0, 4), -1);
        Checks.due("sum", x.order(1, 2), 99);
        Checks.due("day", x.order(1, 3), 102);
        x.cancel(0);
        Checks.due("asks after cancel()", x.asks(0, 0, 1, 3), 3);
        x.pass(1);
        Checks.due("asks after it lapsed", x.asks(0, 0, 1, 4), 4);
        for (int order = 5; order < 40; order++) {
            x.cancel(order - 1);
            Checks.due("asks no. " + order, x.asks(0, 0, 1, 9), order);
        }
        Checks.due("has an open one, there are 40", x.asks(0, 0, 1, 9), -2);
        x.cancel(39);
        Checks.due("there are 40", x.asks(0, 0, 1, 9), -3);
        Checks.due("wrong and there are 40", x.asks(0, 0, 1, 3), -1);
        x.comes(0, 20, 7, 0);
        Checks.due("would() has no -3", x.would(0, 0, 9, 9), 7);
        Checks.due("orders stay 40", x.now(4), 40);
    }

    private static void reservesByThePlan() {
        FreshAllotter x = Checks.told("goods 2;customer 0;customer 0;lot 0 9 10 0;lot 1 9 6 0;order 0 0 8 5;order 0 1 5 5;");
        Checks.due("reserve(0)", x.reserve(0), 0);
        Checks.due("reserved in all", x.now(7), 8);
        Checks.due("reserve(1)", x.reserve(1), 0);
        Checks.due("reserved in all", x.now(7), 13);
        Checks.due("reserve(0) again", x.reserve(0), 0);
        Checks.due("asks() for a day ahead", x.asks(1, 0, 7, 4), 2);
        Checks.due("reserve(0) with an order ahead", x.reserve(0), 5);
        Checks.due("reserved for it", x.reserved(0, 2), 7);
        Checks.due("reserved for the other", x.reserved(0, 0), 3);
        x.comes(0, 8, 4, 0);
        // The older lot goes ahead: 4 of it to order 2, whose other 3 and all 7 of order 0 come of lot 0.
        Checks.due("reserve(0) with an older lot", x.reserve(0), 4);
        Checks.due("reserved(2, 2)", x.reserved(2, 2), 4);
        Checks.due("reserved(0, 2)", x.reserved(0, 2), 3);
        Checks.due("reserved(0, 0)", x.reserved(0, 0), 7);
        Checks.due("the other good stays", x.reserved(1, 1), 5);
        for (int good : new int[] {2, -1, LEAST, MOST}) {
            Checks.due("reserve(" + good + ")", x.reserve(good), -1);
        }
        Checks.due("what can be undone", x.now(10), 7);
    }

    private static void cancelsOrders() {
        FreshAllotter x = Checks.told("goods 2;customer 0;lot 0 9 10 0;lot 0 8 3 0;lot 1 9 6 0;order 0 0 8 5;order 0 1 5 5;");
        x.reserve(0);
        x.reserve(1);
        Checks.due("cancel(0)", x.cancel(0), 8);
        Checks.due("how it is", x.order(0, 4), 2);
        Checks.due("reserved for it", x.order(0, 5), 0);
        Checks.due("reserved in all", x.now(7), 5);
        Checks.due("left", x.lot(0, 2), 10);
        Checks.due("cancel(0) again", x.cancel(0), -1);
        for (int order : new int[] {2, -1, LEAST, MOST}) {
            Checks.due("cancel(" + order + ")", x.cancel(order), -1);
        }
        x.undo();
        Checks.due("reserved in all after undo()", x.now(7), 13);
        Checks.due("how it is after undo()", x.order(0, 4), 0);
        x.pass(5);
        x.deliver(1);
        Checks.due("cancel() of a delivered one", x.cancel(1), -1);
        x.pass(1);
        Checks.due("cancel() of a lapsed one", x.cancel(0), -1);
        FreshAllotter y = Checks.told("goods 1;customer 0;order 0 0 8 5;");
        Checks.due("cancel() of one with nothing reserved", y.cancel(0), 0);
        Checks.due("what can be undone", y.now(10), 1);
    }

    private static void holdsLots() {
        FreshAllotter x = Checks.told("goods 1;customer 0;customer 0;lot 0 9 10 0;order 0 0 4 3;order 1 0 5 5;");
        x.reserve(0);
        Checks.due("hold(0, 3)", x.hold(0, 3), 0);
        Checks.due("hold(0, 4)", x.hold(0, 4), 4);
        Checks.due("reserved for order 1 stays", x.reserved(0, 1), 5);
        Checks.due("hold", x.lot(0, 3), 4);
        Checks.due("hold(0, 999)", x.hold(0, 999), 5);
        Checks.due("hold(0, 0)", x.hold(0, 0), 0);
        Checks.due("it is not reserved anew", x.now(7), 0);
        Checks.due("what can be undone", x.now(10), 5);
        int[][] refused = {{0, -1}, {0, 1000}, {1, 0}, {-1, 0}, {0, LEAST}, {0, MOST}, {LEAST, 0}, {MOST, 0}};
        for (int[] n : refused) {
            Checks.due("hold" + java.util.Arrays.toString(n), x.hold(n[0], n[1]), -1);
        }
        Checks.due("what can be undone after refused ones", x.now(10), 5);
        x.undo();
        x.undo();
        Checks.due("hold after two undone", x.lot(0, 3), 4);
        Checks.due("reserved after two undone", x.reserved(0, 1), 5);
    }

    private static void deliversOrders() {
        FreshAllotter x = Checks.told("goods 1;customer 0;customer 1;customer 0;lot 0 9 10 0;lot 0 4 6 0;"
                + "order 0 0 8 2;order 1 0 50 3;order 2 0 5 2;");
        x.pass(2);
        Checks.due("nothing is reserved", x.deliver(0), -1);
        x.reserve(0);
        Checks.due("another day's", x.deliver(1), -1);
        Checks.due("deliver(0)", x.deliver(0), 8);
        Checks.due("left of lot 1", x.lot(1, 2), 0);
        Checks.due("left of lot 0", x.lot(0, 2), 8);
        Checks.due("got", x.order(0, 6), 8);
        Checks.due("how it is", x.order(0, 4), 1);
        Checks.due("latest", x.customer(0, 0), 9);
        Checks.due("delivered in all", x.now(9), 8);
        Checks.due("reserved in all", x.now(7), 8);
        Checks.due("deliver(0) again", x.deliver(0), -1);
        x.pass(1);
        Checks.due("a lapsed one", x.deliver(2), -1);
        Checks.due("got by a lapsed one", x.order(2, 6), 0);
        Checks.due("less than its sum", x.deliver(1), 3);
        Checks.due("delivered in all", x.now(9), 11);
        for (int order : new int[] {3, -1, LEAST, MOST}) {
            Checks.due("deliver(" + order + ")", x.deliver(order), -1);
        }
        x.undo();
        Checks.due("delivered in all after undo()", x.now(9), 8);
        Checks.due("latest after undo()", x.customer(1, 0), -1);
        Checks.due("left after undo()", x.lot(0, 2), 8);
        Checks.due("reserved after undo()", x.reserved(0, 1), 3);
    }

    private static void passesDays() {
        FreshAllotter x = Checks.told("goods 1;customer 0;customer 0;lot 0 0 3 0;lot 0 1 4 0;lot 0 2 5 0;"
                + "order 0 0 5 0;order 1 0 20 1;");
        x.reserve(0);
        for (int days : new int[] {0, -1, 100, LEAST, MOST}) {
            Checks.due("pass(" + days + ")", x.pass(days), -1);
        }
        Checks.due("pass(1)", x.pass(1), 1);
        Checks.due("order 0 lapsed", x.order(0, 4), 3);
        Checks.due("order 1 is open", x.order(1, 4), 0);
        Checks.due("lot 0 is written off", x.lot(0, 2), 0);
        Checks.due("lot 1 is left", x.lot(1, 2), 4);
        Checks.due("waste", x.now(8), 3);
        // Of lots 0 to 2 order 0 had the 3 and 2 of lot 1; the rest is order 1's.
        Checks.due("reserved in all", x.now(7), 7);
        Checks.due("pass(1)", x.pass(1), 2);
        Checks.due("waste", x.now(8), 7);
        Checks.due("reserved in all", x.now(7), 0);
        Checks.due("pass(99)", x.pass(99), 101);
        Checks.due("waste", x.now(8), 12);
        for (int today = 200; today <= 900; today += 99) {
            Checks.due("pass(99)", x.pass(99), today);
        }
        Checks.due("pass(8) to 901", x.pass(8), -1);
        Checks.due("pass(7) to 900", x.pass(7), 900);
        Checks.due("pass(1) to 901", x.pass(1), -1);
        Checks.due("comes() on the last day", x.comes(0, 999, 1, 999), 3);
        Checks.due("asks() on the last day", x.asks(0, 0, 1, 999), 2);
        Checks.due("plan on the last day", x.plan(-1, 2), 1);
    }

    private static void undoesActs() {
        FreshAllotter x = Checks.told("goods 1;customer 0;lot 0 9 10 0;order 0 0 4 3;");
        Checks.due("undo() of nothing", x.undo(), -1);
        for (int i = 1; i <= 12; i++) {
            x.pass(1);
            Checks.due("what can be undone", x.now(10), Math.min(i, 10));
        }
        for (int i = 9; i >= 0; i--) {
            Checks.due("undo()", x.undo(), i);
            Checks.due("today after it", x.now(0), i + 2);
        }
        Checks.due("undo() of an eleventh", x.undo(), -1);
        Checks.due("today", x.now(0), 2);
        x.reserve(0);
        x.hold(0, 99);
        x.asks(0, 0, 1, 1);
        x.feed(1, 2, 3, 4, 5);
        Checks.due("undo() passes over refused ones", x.undo(), 1);
        Checks.due("hold undone", x.lot(0, 3), 0);
        Checks.due("reserved again", x.now(7), 4);
        Checks.due("the tape stays", x.now(11), 20);
        Checks.due("undo()", x.undo(), 0);
        Checks.due("nothing is reserved", x.now(7), 0);
        x.comes(0, 9, 9, 9);
        Checks.due("undo() of comes()", x.undo(), 0);
        Checks.due("lots", x.now(3), 1);
        x.cancel(0);
        x.asks(0, 0, 5, 5);
        Checks.due("undo() of asks()", x.undo(), 1);
        Checks.due("orders", x.now(4), 1);
        Checks.due("undo() of cancel()", x.undo(), 0);
        Checks.due("it is open", x.order(0, 4), 0);
        x.pass(20);
        Checks.due("waste", x.now(8), 10);
        x.undo();
        Checks.due("waste undone", x.now(8), 0);
        Checks.due("left again", x.lot(0, 2), 10);
        Checks.due("it is open again", x.order(0, 4), 0);
    }

    private static void changesNothingWhenRefusing() {
        FreshAllotter x = Checks.told("goods 1;customer 0;lot 0 9 10 0;order 0 0 4 3;");
        x.reserve(0);
        int[] before = new int[12];
        for (int what = 0; what < 12; what++) {
            before[what] = x.now(what);
        }
        x.comes(0, 100, 1, 0);
        x.asks(0, 0, 1, 1);
        x.reserve(1);
        x.cancel(1);
        x.hold(0, -1);
        x.deliver(0);
        x.pass(0);
        x.would(0, 0, 5, 5);
        x.slack(0);
        x.plan(0, 0);
        x.least(0, 9);
        Checks.dueThrowsOfLot(x, 7, 0);
        Checks.dueThrowsOfOrder(x, 7, 0);
        for (int what = 0; what < 12; what++) {
            Checks.due("now(" + what + ") after refused ones", x.now(what), before[what]);
        }
    }
}
