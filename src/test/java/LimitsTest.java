/** An object as full as it can be (24 lots, 40 orders, 6 customers, 4 goods): each call still answers as due. */
public final class LimitsTest {
    private static final String FULL_TEXT_HEAD = "goods 4;" + "customer 0;".repeat(6);

    public static void main(String[] args) {
        answersWhenFull();
        releasesWhenFull();
        plansAllLotsOfOneGood();
        Checks.finish();
    }

    /** Six lots of each good, the last of them of good 3; forty orders, of which 34 to 39 are open ones for good 3. */
    private static FreshAllotter full() {
        FreshAllotter x = Checks.told(FULL_TEXT_HEAD);
        for (int order = 0; order < 34; order++) {
            Checks.due("asks no. " + order, x.asks(order % 6, 3, 1, 0), order);
            Checks.due("cancel(" + order + ")", x.cancel(order), 0);
        }
        for (int order = 34; order < 40; order++) {
            Checks.due("asks no. " + order, x.asks(order - 34, 3, 70, order - 34), order);
        }
        for (int lot = 0; lot < 24; lot++) {
            Checks.due("comes no. " + lot, x.comes(lot / 6, 50 - lot, 90, 0), lot);
        }
        return x;
    }

    private static void answersWhenFull() {
        FreshAllotter x = full();
        int[] want = {0, 4, 6, 24, 40, 6, 2160, 0, 0, 0, 10, 0};
        for (int what = 0; what < want.length; what++) {
            Checks.due("now(" + what + ") when full", x.now(what), want[what]);
        }
        Checks.due("reserve(3)", x.reserve(3), 0);
        Checks.due("reserved in all", x.now(7), 420);
        // The oldest is lot 23: 70 of it for order 34, 20 for order 35, and so on.
        Checks.due("reserved(23, 34)", x.reserved(23, 34), 70);
        Checks.due("reserved(23, 35)", x.reserved(23, 35), 20);
        Checks.due("reserved(19, 39)", x.reserved(19, 39), 60);
        Checks.due("reserved(18, 39)", x.reserved(18, 39), 0);
        Checks.due("plan(23, 35)", x.plan(23, 35), 20);
        Checks.due("plan(NONE, 39)", x.plan(-1, 39), 70);
        Checks.due("lot(23, 4)", x.lot(23, 4), 90);
        Checks.due("order(39, 5)", x.order(39, 5), 70);
        Checks.due("suits(23, 39)", x.suits(23, 39), true);
        Checks.due("waste(3, 99)", x.waste(3, 99), 120);
        Checks.due("waste(0, 99)", x.waste(0, 99), 540);
        Checks.due("least(3, 99)", x.least(3, 99), 120);
        Checks.due("slack(39)", x.slack(39), 0);
        Checks.due("would(5, 0, 99, 9)", x.would(5, 0, 99, 9), 99);
        Checks.due("would(5, 3, 99, 9)", x.would(5, 3, 99, 9), -2);
        Checks.due("asks(5, 0, 99, 9)", x.asks(5, 0, 99, 9), -3);
        Checks.due("comes(0, 9, 9, 9)", x.comes(0, 9, 9, 9), -2);
        Checks.dueThrowsOfLot(x, 24, 0);
        Checks.dueThrowsOfOrder(x, 40, 0);
        Checks.due("reserved(24, 39)", x.reserved(24, 39), -1);
        Checks.due("reserved(23, 40)", x.reserved(23, 40), -1);
        Checks.due("customer(5, 3)", x.customer(5, 3), -1);
        Checks.due("customer(6, 3)", x.customer(6, 3), -1);
        Checks.due("customer(5, 4)", x.customer(5, 4), -1);
    }

    private static void releasesWhenFull() {
        FreshAllotter x = full();
        x.reserve(3);
        Checks.due("deliver(34)", x.deliver(34), 70);
        Checks.due("cancel(38)", x.cancel(38), 70);
        Checks.due("hold(23, 99)", x.hold(23, 99), 20);
        Checks.due("pass(5)", x.pass(5), 5);
        Checks.due("reserved in all", x.now(7), 70);
        Checks.due("deliver(39)", x.deliver(39), 70);
        Checks.due("latest of the last", x.customer(5, 3), 31);
        Checks.due("pass(99)", x.pass(99), 104);
        Checks.due("waste", x.now(8), 2160 - 140);
        Checks.due("left", x.now(6), 0);
        for (int i = 6; i >= 0; i--) {
            // The eighth to tenth act kept are comes() of the lots 21 to 23.
            Checks.due("undo()", x.undo(), i + 3);
        }
        Checks.due("reserved in all", x.now(7), 0);
        Checks.due("left", x.now(6), 2160);
        Checks.due("lots", x.now(3), 24);
        Checks.due("undo() of lot 23", x.undo(), 2);
        Checks.due("lots", x.now(3), 23);
    }

    private static void plansAllLotsOfOneGood() {
        FreshAllotter x = Checks.told(FULL_TEXT_HEAD + "order 0 3 99 1;order 1 3 99 1;order 2 3 99 1;order 3 3 99 1;"
                + "order 4 3 99 1;");
        for (int lot = 0; lot < 24; lot++) {
            x.comes(3, 99 - lot, 22, 0);
        }
        Checks.due("would(5, 3, 99, 1)", x.would(5, 3, 99, 1), 528 - 495);
        Checks.due("asks(5, 3, 99, 1)", x.asks(5, 3, 99, 1), 5);
        Checks.due("plan(NONE, 5)", x.plan(-1, 5), 33);
        Checks.due("plan(0, 5)", x.plan(0, 5), 22);
        Checks.due("reserve(3)", x.reserve(3), 0);
        Checks.due("reserved in all", x.now(7), 528);
        Checks.due("slack(5)", x.slack(5), -2);
        Checks.due("cancel(0)", x.cancel(0), 99);
        Checks.due("slack(5)", x.slack(5), 0);
        // The orders 1 to 4 move to lots ahead, but for 11 of 1 and of 3 that stay in a lot; 22 of order 5 move.
        Checks.due("reserve(3)", x.reserve(3), 4 * 99 - 2 * 11 + 22);
    }
}
