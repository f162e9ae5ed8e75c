/** Promises 1 a new object, 6 now, 7 lot, 8 order, 9 reserved, 10 customer, 11 suits. */
public final class QueryTest {
    private static final int[] STRANGE = {-2, 99, 1000, Integer.MIN_VALUE, Integer.MAX_VALUE};

    public static void main(String[] args) {
        beginsEmpty();
        tellsNow();
        tellsLotsAndOrders();
        tellsReserved();
        tellsCustomers();
        tellsWhatSuits();
        Checks.finish();
    }

    private static void beginsEmpty() {
        FreshAllotter x = new FreshAllotter();
        int[] want = {0, 1, 0, 0, 0, 0, 0, 0, 0, 0, 0, 0};
        for (int what = 0; what < want.length; what++) {
            Checks.due("now(" + what + ") of a new object", x.now(what), want[what]);
        }
        Checks.due("fault() of a new object", x.fault(), 0);
        Checks.due("undo() of a new object", x.undo(), -1);
        Checks.due("comes of a new object", x.comes(0, 3, 4, 0), 0);
        Checks.due("comes of good 1", x.comes(1, 3, 4, 0), -1);
        Checks.due("asks of nobody", x.asks(0, 0, 4, 0), -1);
    }

    private static void tellsNow() {
        FreshAllotter x = Checks.told("goods 3;customer 1;customer 2;lot 0 5 9 0;lot 2 6 30 0;lot 2 2 7 0;"
                + "order 0 0 4 1;order 1 2 20 1;order 0 2 3 9;");
        x.reserve(0);
        x.reserve(2);
        x.pass(1);
        x.deliver(1);
        x.pass(2);
        x.feed(1, 2, 3, 4, 5);
        // Order 0 lapses, order 1 got 20 of lot 1, lot 2 dies.
        int[] want = {3, 3, 2, 3, 3, 1, 19, 0, 7, 20, 5, 20};
        for (int what = 0; what < want.length; what++) {
            Checks.due("now(" + what + ")", x.now(what), want[what]);
        }
        for (int what : new int[] {-1, 12, Integer.MIN_VALUE, Integer.MAX_VALUE}) {
            Checks.due("now(" + what + ")", x.now(what), -1);
        }
        x.comes(0, 90, 50, 0);
        x.asks(0, 0, 60, 5);
        x.reserve(0);
        Checks.due("reserved in all", x.now(7), 50);
        Checks.due("open ones", x.now(5), 2);
    }

    private static void tellsLotsAndOrders() {
        FreshAllotter x = Checks.told("goods 2;customer 1;customer 0;lot 0 5 9 0;lot 1 6 30 4;"
                + "order 1 0 4 1;order 0 1 20 5;");
        x.reserve(0);
        x.reserve(1);
        dueLot(x, 0, 0, 5, 9, 0, 4);
        dueLot(x, 1, 1, 6, 30, 4, 20);
        dueOrder(x, 0, 1, 0, 4, 1, 0, 4, 0);
        dueOrder(x, 1, 0, 1, 20, 5, 0, 20, 0);
        x.pass(1);
        x.deliver(0);
        dueLot(x, 0, 0, 5, 5, 0, 0);
        dueOrder(x, 0, 1, 0, 4, 1, 1, 0, 4);
        x.cancel(1);
        dueLot(x, 1, 1, 6, 30, 4, 0);
        dueOrder(x, 1, 0, 1, 20, 5, 2, 0, 0);
        Checks.due("asks()", x.asks(0, 0, 1, 1), 2);
        x.pass(1);
        dueOrder(x, 2, 0, 0, 1, 1, 3, 0, 0);
        for (int strange : STRANGE) {
            Checks.dueThrowsOfLot(x, strange, 0);
            Checks.dueThrowsOfLot(x, 0, strange);
            Checks.dueThrowsOfOrder(x, strange, 0);
            Checks.dueThrowsOfOrder(x, 0, strange);
        }
        Checks.dueThrowsOfLot(x, -1, 0);
        Checks.dueThrowsOfLot(x, 2, 0);
        Checks.dueThrowsOfLot(x, 0, 5);
        Checks.dueThrowsOfLot(x, 0, -1);
        Checks.dueThrowsOfOrder(x, -1, 0);
        Checks.dueThrowsOfOrder(x, 3, 0);
        Checks.dueThrowsOfOrder(x, 0, 7);
        Checks.dueThrowsOfOrder(x, 0, -1);
    }

    private static void tellsReserved() {
        FreshAllotter x = Checks.told("goods 2;customer 0;customer 0;lot 0 5 9 0;lot 0 6 30 0;lot 1 6 8 0;"
                + "order 0 0 4 1;order 1 0 20 1;order 0 1 3 1;");
        Checks.due("reserved(0, 0) at first", x.reserved(0, 0), 0);
        x.reserve(0);
        x.reserve(1);
        int[][] want = {{4, 5, 0}, {0, 15, 0}, {0, 0, 3}};
        for (int lot = 0; lot < 3; lot++) {
            for (int order = 0; order < 3; order++) {
                Checks.due("reserved(" + lot + ", " + order + ")", x.reserved(lot, order), want[lot][order]);
            }
        }
        x.cancel(0);
        Checks.due("reserved for a cancelled one", x.reserved(0, 0), 0);
        Checks.due("asks() anew", x.asks(0, 0, 7, 1), 3);
        Checks.due("reserved for the new one", x.reserved(0, 3), 0);
        x.reserve(0);
        Checks.due("reserved for the cancelled one still", x.reserved(1, 0), 0);
        Checks.due("reserved for the new one", x.reserved(1, 3), 7);
        for (int strange : STRANGE) {
            Checks.due("reserved(" + strange + ", 0)", x.reserved(strange, 0), -1);
            Checks.due("reserved(0, " + strange + ")", x.reserved(0, strange), -1);
        }
        Checks.due("reserved(3, 0)", x.reserved(3, 0), -1);
        Checks.due("reserved(-1, 0)", x.reserved(-1, 0), -1);
        Checks.due("reserved(0, 4)", x.reserved(0, 4), -1);
        Checks.due("reserved(0, -1)", x.reserved(0, -1), -1);
    }

    private static void tellsCustomers() {
        FreshAllotter x = Checks.told("goods 2;customer 3;customer 0;lot 0 5 9 0;lot 0 7 9 0;lot 0 9 9 0;order 0 0 12 0;");
        Checks.due("life", x.customer(0, -1), 3);
        Checks.due("life", x.customer(1, -1), 0);
        Checks.due("latest: none as yet", x.customer(0, 0), -1);
        x.reserve(0);
        x.deliver(0);
        Checks.due("latest is the greatest expiry", x.customer(0, 0), 7);
        Checks.due("latest for another good", x.customer(0, 1), -1);
        Checks.due("latest of another customer", x.customer(1, 0), -1);
        Checks.due("no such good", x.customer(0, 2), -1);
        Checks.due("no such customer", x.customer(2, -1), -1);
        Checks.due("no such customer", x.customer(-1, -1), -1);
        for (int strange : STRANGE) {
            Checks.due("customer(" + strange + ", -1)", x.customer(strange, -1), -1);
            Checks.due("customer(" + strange + ", 0)", x.customer(strange, 0), -1);
            Checks.due("customer(0, " + strange + ")", x.customer(0, strange), -1);
        }
    }

    private static void tellsWhatSuits() {
        FreshAllotter x = Checks.told("goods 2;customer 3;lot 0 7 9 0;lot 0 8 9 0;lot 0 9 9 5;lot 0 9 9 6;lot 1 9 9 0;"
                + "order 0 0 12 5;");
        Checks.due("too little life", x.suits(0, 0), false);
        Checks.due("just enough life", x.suits(1, 0), true);
        Checks.due("held till the day", x.suits(2, 0), true);
        Checks.due("held longer", x.suits(3, 0), false);
        Checks.due("another good", x.suits(4, 0), false);
        for (int strange : STRANGE) {
            Checks.due("suits(" + strange + ", 0)", x.suits(strange, 0), false);
            Checks.due("suits(1, " + strange + ")", x.suits(1, strange), false);
        }
        Checks.due("suits(5, 0)", x.suits(5, 0), false);
        Checks.due("suits(-1, 0)", x.suits(-1, 0), false);
        Checks.due("suits(1, 1)", x.suits(1, 1), false);
        Checks.due("suits(1, -1)", x.suits(1, -1), false);
        x.cancel(0);
        Checks.due("suits a cancelled one", x.suits(1, 0), false);
        suitsByLatest();
    }

    private static void suitsByLatest() {
        FreshAllotter x = Checks.told("goods 2;customer 0;customer 0;lot 0 7 9 0;lot 0 8 9 0;lot 1 3 9 0;lot 0 8 5 0;"
                + "order 0 0 10 0;");
        x.reserve(0);
        Checks.due("deliver(0)", x.deliver(0), 10);
        Checks.due("asks()", x.asks(0, 0, 1, 1), 1);
        Checks.due("asks()", x.asks(0, 1, 1, 1), 2);
        Checks.due("asks()", x.asks(1, 0, 1, 1), 3);
        Checks.due("older than last time", x.suits(0, 1), false);
        Checks.due("as old as last time", x.suits(1, 1), true);
        Checks.due("as old as last time", x.suits(3, 1), true);
        Checks.due("another good", x.suits(2, 2), true);
        Checks.due("another customer, of an empty lot", x.suits(0, 3), true);
        Checks.due("a delivered one", x.suits(1, 0), false);
        x.undo();
        x.undo();
        x.undo();
        x.undo();
        Checks.due("latest undone", x.suits(0, 0), true);
    }

    private static void dueLot(FreshAllotter x, int lot, int... want) {
        for (int what = 0; what < want.length; what++) {
            Checks.due("lot(" + lot + ", " + what + ")", x.lot(lot, what), want[what]);
        }
    }

    private static void dueOrder(FreshAllotter x, int order, int... want) {
        for (int what = 0; what < want.length; what++) {
            Checks.due("order(" + order + ", " + what + ")", x.order(order, what), want[what]);
        }
    }
}
