/**
 * The edges of the terms of lots, orders, customers and of what suits, and of promises 1 a new object, 6 now, 7 lot,
 * 8 order, 9 reserved, 10 customer, 11 suits: a test a sentence.
 */
public final class AskEdgesTest {
    private static final int LEAST = Integer.MIN_VALUE;
    private static final int MOST = Integer.MAX_VALUE;
    private static final int OPEN = 0;
    private static final int DELIVERED = 1;
    private static final int CANCELLED = 2;
    private static final int LAPSED = 3;

    public static void main(String[] args) {
        Checks.runAll(AskEdgesTest.class);
    }

    // ---- promise 1

    /** "One GOOD" */
    static void promise1OneGood() {
        FreshAllotter x = new FreshAllotter();
        Checks.due("goods", x.now(1), 1);
        Checks.due("comes() of good 0", x.comes(0, 3, 4, 0), 0);
        Checks.due("comes() of good 1", x.comes(1, 3, 4, 0), -1);
    }

    /** "nothing else" */
    static void promise1NothingElse() {
        FreshAllotter x = new FreshAllotter();
        for (int what : new int[] {0, 2, 3, 4, 5, 6, 7, 8, 9, 10}) {
            Checks.due("now(" + what + ")", x.now(what), 0);
        }
        Checks.dueThrowsOfLot(x, 0, 0);
        Checks.dueThrowsOfOrder(x, 0, 0);
        Checks.due("customer(0, NONE)", x.customer(0, -1), -1);
        Checks.due("asks() of nobody", x.asks(0, 0, 1, 0), -1);
        Checks.due("undo()", x.undo(), -1);
    }

    /** "an empty tape" */
    static void promise1AnEmptyTape() {
        Checks.due("bytes", new FreshAllotter().now(11), 0);
        Checks.due("end(1)", new FreshAllotter().end(1), false);
        Checks.due("text()", new FreshAllotter().text(), -1);
    }

    /** A call that needs nothing but a GOOD is done on a new object too. */
    static void promise1ActsOfANewObject() {
        FreshAllotter x = new FreshAllotter();
        Checks.due("reserve(0)", x.reserve(0), 0);
        Checks.due("pass(99)", x.pass(99), 99);
        Checks.due("waste(0, 99)", x.waste(0, 99), 0);
        Checks.due("least(0, 198)", x.least(0, 198), 0);
    }

    // ---- "TODAY is a DAY"

    /** "TODAY is a DAY (0 at first)" */
    static void termsTodayIs0AtFirst() {
        Checks.due("today of a new object", new FreshAllotter().now(0), 0);
        Checks.due("today of a text", Checks.told("goods 1;lot 0 5 5 5;").now(0), 0);
    }

    /** "LEFT (its SUM at first)" */
    static void termsLeftIsTheSumAtFirst() {
        FreshAllotter x = Checks.told("goods 1;lot 0 5 1 0;lot 0 5 99 0;");
        x.comes(0, 5, 1, 0);
        x.comes(0, 5, 99, 0);
        for (int lot = 0; lot < 4; lot++) {
            Checks.due("left of lot " + lot, x.lot(lot, 2), lot % 2 == 0 ? 1 : 99);
        }
    }

    /** "An ORDER is OPEN (0) .. and GOT so much (0 at first)" */
    static void termsAnOrderIsOpenAndGot0AtFirst() {
        FreshAllotter x = Checks.told("goods 2;customer 0;order 0 0 5 0;");
        x.asks(0, 1, 6, 3);
        Checks.dueOrder(x, 0, 0, 0, 5, 0, OPEN, 0, 0);
        Checks.dueOrder(x, 1, 0, 1, 6, 3, OPEN, 0, 0);
    }

    /** "DELIVERED (1), CANCELLED (2) or LAPSED (3)" */
    static void termsHowAnOrderIs() {
        FreshAllotter x = Checks.told("goods 2;customer 0;customer 0;lot 0 9 9 0;order 0 0 5 0;order 1 0 4 0;order 0 1 1 0;"
                + "order 1 1 1 1;");
        x.reserve(0);
        x.deliver(0);
        x.cancel(1);
        x.pass(1);
        Checks.due("delivered", x.order(0, 4), DELIVERED);
        Checks.due("cancelled", x.order(1, 4), CANCELLED);
        Checks.due("lapsed", x.order(2, 4), LAPSED);
        Checks.due("open", x.order(3, 4), OPEN);
    }

    /** "A CUSTOMER has a LATEST for each GOOD (NONE at first)" */
    static void termsLatestIsNoneAtFirst() {
        FreshAllotter x = Checks.told("goods 4;customer 0;customer 5;");
        for (int good = 0; good < 4; good++) {
            Checks.due("latest of customer 0", x.customer(0, good), -1);
            Checks.due("latest of customer 1", x.customer(1, good), -1);
        }
    }

    /** "the greatest EXPIRY of it that it was delivered": not of what is merely reserved, of any lot but these. */
    static void termsLatestIsTheGreatestExpiryDelivered() {
        FreshAllotter x = Checks.told("goods 1;customer 0;lot 0 7 3 0;lot 0 9 9 0;lot 0 5 3 0;order 0 0 5 0;");
        x.reserve(0);
        Checks.due("latest of what is reserved", x.customer(0, 0), -1);
        x.deliver(0);
        Checks.due("latest", x.customer(0, 0), 7);
    }

    /** "the greatest EXPIRY": an EXPIRY of 0 is one too. */
    static void termsLatestMayBe0() {
        FreshAllotter x = Checks.told("goods 1;customer 0;lot 0 0 3 0;order 0 0 3 0;");
        x.reserve(0);
        Checks.due("deliver(0)", x.deliver(0), 3);
        Checks.due("latest", x.customer(0, 0), 0);
    }

    // ---- "A LOT SUITS an OPEN ORDER"

    /** "it is of its GOOD" */
    static void termsALotOfAnotherGoodSuitsNot() {
        FreshAllotter x = Checks.told("goods 2;customer 0;lot 0 9 9 0;lot 1 9 9 0;order 0 0 5 0;order 0 1 5 0;");
        dueSuits(x, 2, 2, "10 01");
    }

    /** "EXPIRY less DAY is LIFE of the CUSTOMER or more" */
    static void termsSuitsWithJustEnoughLife() {
        FreshAllotter x = Checks.told("goods 1;customer 3;customer 0;lot 0 7 1 0;lot 0 8 1 0;lot 0 4 1 0;lot 0 5 1 0;"
                + "order 0 0 5 5;order 1 0 5 5;");
        // Customer 0 wants 3 days: an expiry of 8; customer 1 none: one of 5.
        dueSuits(x, 4, 2, "01 11 00 01");
        FreshAllotter y = Checks.told("goods 1;customer 99;lot 0 98 1 0;lot 0 99 1 0;order 0 0 5 0;");
        dueSuits(y, 2, 1, "0 1");
    }

    /** "EXPIRY is its LATEST for the GOOD or more" */
    static void termsSuitsFromItsLatestOn() {
        FreshAllotter x = Checks.told("goods 2;customer 0;customer 0;lot 0 6 1 0;lot 0 7 9 0;lot 0 8 1 0;lot 1 3 1 0;order 0 0 5 0;");
        x.hold(0, 1);
        x.reserve(0);
        x.deliver(0);
        Checks.due("latest", x.customer(0, 0), 7);
        x.asks(0, 0, 5, 1);
        x.asks(1, 0, 5, 1);
        x.asks(0, 1, 5, 1);
        // Order 1 is of the customer that has a latest; order 2 of another; order 3 for another good.
        dueSuits(x, 4, 4, "0010 0110 0110 0001");
    }

    /** "(NONE: any)" */
    static void termsSuitsAnyExpiryWithoutALatest() {
        FreshAllotter x = Checks.told("goods 1;customer 0;lot 0 0 1 0;lot 0 99 1 0;order 0 0 5 0;");
        dueSuits(x, 2, 1, "1 1");
    }

    /** "HOLD is DAY or less" */
    static void termsSuitsFromItsHoldOn() {
        FreshAllotter x = Checks.told("goods 1;customer 0;lot 0 9 1 5;lot 0 9 1 6;lot 0 9 1 0;order 0 0 5 5;");
        dueSuits(x, 3, 1, "1 0 1");
    }

    /** "A LOT SUITS an OPEN ORDER": whether anything is LEFT of the LOT is not asked. */
    static void termsAnEmptyLotSuits() {
        FreshAllotter x = Checks.told("goods 1;customer 0;customer 0;lot 0 9 5 0;order 0 0 5 0;order 1 0 5 1;");
        x.reserve(0);
        x.deliver(0);
        Checks.due("left", x.lot(0, 2), 0);
        Checks.due("suits(0, 1)", x.suits(0, 1), true);
    }

    // ---- "RESERVED of a LOT for an ORDER"

    /** "all of a LOT together no more than LEFT" */
    static void termsNoMoreReservedThanLeft() {
        FreshAllotter x = Checks.told("goods 1;customer 0;customer 0;customer 0;lot 0 9 10 0;order 0 0 6 0;order 1 0 6 0;order 2 0 6 0;");
        x.reserve(0);
        Checks.due("reserved of the lot", x.lot(0, 4), 10);
        Checks.due("reserved(0, 0)", x.reserved(0, 0), 6);
        Checks.due("reserved(0, 1)", x.reserved(0, 1), 4);
        Checks.due("reserved(0, 2)", x.reserved(0, 2), 0);
        x.deliver(0);
        x.reserve(0);
        Checks.due("reserved of what is left", x.lot(0, 4), 4);
    }

    /** "all for an ORDER no more than SUM" */
    static void termsNoMoreReservedThanTheSum() {
        FreshAllotter x = Checks.told("goods 1;customer 0;lot 0 9 5 0;lot 0 9 5 0;lot 0 9 5 0;order 0 0 6 0;");
        x.reserve(0);
        Checks.due("reserved for the order", x.order(0, 5), 6);
        Checks.due("reserved(0, 0)", x.reserved(0, 0), 5);
        Checks.due("reserved(1, 0)", x.reserved(1, 0), 1);
        Checks.due("reserved(2, 0)", x.reserved(2, 0), 0);
    }

    /** "only where the LOT SUITS" */
    static void termsReservedOnlyWhereItSuits() {
        FreshAllotter x = Checks.told("goods 2;customer 2;lot 0 6 9 0;lot 0 9 9 6;lot 1 9 9 0;order 0 0 9 5;");
        x.reserve(0);
        x.reserve(1);
        Checks.due("reserved in all", x.now(7), 0);
        x.comes(0, 7, 9, 5);
        x.reserve(0);
        Checks.due("reserved of the lot that suits", x.reserved(3, 0), 9);
    }

    // ---- promise 6

    /** "0 TODAY, 1 GOODS, 2 CUSTOMERS, 3 LOTS, 4 ORDERS, 5 OPEN ones .. 11 bytes of the tape" */
    static void promise6EachWhat() {
        FreshAllotter x = Checks.told("goods 3;customer 1;customer 2;lot 0 5 9 0;lot 2 6 30 0;lot 2 2 7 0;"
                + "order 0 0 4 1;order 1 2 20 1;order 0 2 3 4;order 1 0 2 5;");
        x.reserve(2);
        x.pass(1);
        x.deliver(1);
        x.cancel(3);
        x.pass(2);
        x.feed(1, 2, 3, 4, 5);
        x.end(19);
        // Order 0 has lapsed, 1 was delivered, 3 cancelled; 3 of lot 1 are reserved for order 2; lot 2 has died.
        int[] want = {3, 3, 2, 3, 4, 1, 19, 3, 7, 20, 5, 19};
        for (int what = 0; what < want.length; what++) {
            Checks.due("now(" + what + ")", x.now(what), want[what]);
        }
    }

    /** "NONE for another what" */
    static void promise6NoneForAnotherWhat() {
        FreshAllotter x = Checks.told("goods 2;customer 0;lot 0 9 9 0;");
        for (int what : new int[] {-1, 12, -2, 13, LEAST, MOST}) {
            Checks.due("now(" + what + ")", x.now(what), -1);
        }
    }

    /** "6 what is LEFT of all LOTS": of every GOOD, reserved or not, none of a written off one. */
    static void promise6LeftOfAllLots() {
        FreshAllotter x = Checks.told("goods 2;customer 0;lot 0 9 10 0;lot 1 9 20 0;lot 0 0 5 0;order 0 0 4 1;");
        Checks.due("left", x.now(6), 35);
        x.reserve(0);
        Checks.due("left when some is reserved", x.now(6), 35);
        x.pass(1);
        // Lot 2, which expires on day 0, does not suit the order of day 1.
        Checks.due("left after a lot was written off", x.now(6), 30);
        x.deliver(0);
        Checks.due("left after a delivery", x.now(6), 26);
    }

    /** "10 what can be undone": 10 at most. */
    static void promise6WhatCanBeUndone() {
        FreshAllotter x = new FreshAllotter();
        for (int i = 1; i <= 12; i++) {
            x.pass(1);
            Checks.due("what can be undone", x.now(10), Math.min(i, 10));
        }
    }

    // ---- promise 7

    /** "Of a LOT 0 its GOOD, 1 EXPIRY, 2 LEFT, 3 HOLD, 4 RESERVED of it in all" */
    static void promise7EachWhat() {
        FreshAllotter x = Checks.told("goods 2;customer 0;customer 0;lot 1 8 7 1;order 0 1 2 2;order 1 1 3 3;");
        Checks.dueLot(x, 0, 1, 8, 7, 1, 0);
        x.reserve(1);
        Checks.dueLot(x, 0, 1, 8, 7, 1, 5);
    }

    /** "NoSuchElementException: no such one" */
    static void promise7ThrowsForNoSuchLot() {
        FreshAllotter x = Checks.told("goods 1;lot 0 5 5 5;lot 0 5 5 5;");
        Checks.dueLot(x, 1, 0, 5, 5, 5, 0);
        for (int lot : new int[] {2, -1, 24, LEAST, MOST}) {
            for (int what = 0; what < 5; what++) {
                Checks.dueThrowsOfLot(x, lot, what);
            }
        }
        x.comes(0, 5, 5, 5);
        x.undo();
        Checks.dueThrowsOfLot(x, 2, 0);
    }

    /** "NoSuchElementException: .. another what" */
    static void promise7ThrowsForAnotherWhat() {
        FreshAllotter x = Checks.told("goods 1;lot 0 5 5 5;");
        for (int what : new int[] {-1, 5, 6, LEAST, MOST}) {
            Checks.dueThrowsOfLot(x, 0, what);
            Checks.dueThrowsOfLot(x, 1, what);
        }
    }

    // ---- promise 8

    /** "Of an ORDER 0 its CUSTOMER, 1 GOOD, 2 SUM, 3 DAY, 4 how it is (0 to 3), 5 RESERVED .. in all, 6 what it GOT" */
    static void promise8EachWhat() {
        FreshAllotter x = Checks.told("goods 3;customer 0;customer 0;lot 2 8 7 0;lot 2 9 4 0;order 1 2 10 0;");
        Checks.dueOrder(x, 0, 1, 2, 10, 0, OPEN, 0, 0);
        x.reserve(2);
        Checks.dueOrder(x, 0, 1, 2, 10, 0, OPEN, 10, 0);
        x.deliver(0);
        Checks.dueOrder(x, 0, 1, 2, 10, 0, DELIVERED, 0, 10);
    }

    /** "NoSuchElementException: no such one" */
    static void promise8ThrowsForNoSuchOrder() {
        FreshAllotter x = Checks.told("goods 2;customer 0;order 0 0 5 5;");
        for (int order : new int[] {1, -1, 40, LEAST, MOST}) {
            for (int what = 0; what < 7; what++) {
                Checks.dueThrowsOfOrder(x, order, what);
            }
        }
        x.asks(0, 1, 5, 5);
        Checks.due("day of order 1", x.order(1, 3), 5);
        x.undo();
        Checks.dueThrowsOfOrder(x, 1, 3);
    }

    /** "NoSuchElementException: .. another what" */
    static void promise8ThrowsForAnotherWhat() {
        FreshAllotter x = Checks.told("goods 1;customer 0;order 0 0 5 5;");
        for (int what : new int[] {-1, 7, 8, LEAST, MOST}) {
            Checks.dueThrowsOfOrder(x, 0, what);
            Checks.dueThrowsOfOrder(x, 1, what);
        }
    }

    // ---- promise 9

    /** "RESERVED of a LOT for an ORDER": 0 for one that is not OPEN any more and for another GOOD. */
    static void promise9NothingIsReserved() {
        FreshAllotter x = Checks.told("goods 2;customer 0;customer 0;lot 0 9 9 0;lot 1 9 9 0;order 0 0 5 0;order 1 0 3 0;");
        Checks.due("reserved(0, 0) at first", x.reserved(0, 0), 0);
        x.reserve(0);
        Checks.due("reserved(0, 0)", x.reserved(0, 0), 5);
        Checks.due("reserved(1, 0) of another good", x.reserved(1, 0), 0);
        x.deliver(0);
        Checks.due("reserved(0, 0) of a delivered one", x.reserved(0, 0), 0);
        x.cancel(1);
        Checks.due("reserved(0, 1) of a cancelled one", x.reserved(0, 1), 0);
        // A new order of the same customer: what is reserved for it is not reserved for the old one.
        x.asks(0, 0, 2, 0);
        x.reserve(0);
        Checks.due("reserved(0, 0) of a delivered one", x.reserved(0, 0), 0);
        Checks.due("reserved(0, 2)", x.reserved(0, 2), 2);
        Checks.due("order(0, 5) of a delivered one", x.order(0, 5), 0);
    }

    /** "NONE: no such ones" */
    static void promise9NoneForNoSuchOnes() {
        FreshAllotter x = Checks.told("goods 1;customer 0;lot 0 9 9 0;order 0 0 5 0;");
        for (int strange : new int[] {1, -1, 24, 40, LEAST, MOST}) {
            Checks.due("reserved(" + strange + ", 0)", x.reserved(strange, 0), -1);
            Checks.due("reserved(0, " + strange + ")", x.reserved(0, strange), -1);
            Checks.due("reserved(" + strange + ", " + strange + ")", x.reserved(strange, strange), -1);
        }
    }

    // ---- promise 10

    /** "LIFE of a CUSTOMER (good NONE)" */
    static void promise10LifeWithGoodNone() {
        FreshAllotter x = Checks.told("goods 1;customer 0;customer 99;");
        Checks.due("customer(0, NONE)", x.customer(0, FreshAllotter.NONE), 0);
        Checks.due("customer(1, NONE)", x.customer(1, FreshAllotter.NONE), 99);
    }

    /** "NONE: no such ones" */
    static void promise10NoneForNoSuchOnes() {
        FreshAllotter x = Checks.told("goods 2;customer 7;customer 8;lot 0 9 9 0;lot 1 9 9 0;order 1 0 5 0;order 1 1 5 0;");
        x.reserve(0);
        x.reserve(1);
        x.deliver(0);
        x.deliver(1);
        for (int customer : new int[] {2, -1, 6, LEAST, MOST}) {
            Checks.due("customer(" + customer + ", NONE)", x.customer(customer, -1), -1);
            Checks.due("customer(" + customer + ", 0)", x.customer(customer, 0), -1);
        }
        Checks.due("customer(1, 1)", x.customer(1, 1), 9);
        for (int good : new int[] {2, -2, 4, LEAST, MOST}) {
            Checks.due("customer(1, " + good + ")", x.customer(1, good), -1);
        }
    }

    /** "(LATEST: none as yet)": of this CUSTOMER for this GOOD. */
    static void promise10NoneAsYet() {
        FreshAllotter x = Checks.told("goods 2;customer 0;customer 0;lot 0 9 9 0;order 0 0 5 0;");
        x.reserve(0);
        x.deliver(0);
        Checks.due("customer(0, 0)", x.customer(0, 0), 9);
        Checks.due("customer(0, 1)", x.customer(0, 1), -1);
        Checks.due("customer(1, 0)", x.customer(1, 0), -1);
        x.undo();
        Checks.due("customer(0, 0) when the delivery is undone", x.customer(0, 0), -1);
    }

    // ---- promise 11

    /** "False: no such ones" */
    static void promise11FalseForNoSuchOnes() {
        FreshAllotter x = Checks.told("goods 1;customer 0;lot 0 9 9 0;order 0 0 5 0;");
        Checks.due("suits(0, 0)", x.suits(0, 0), true);
        for (int strange : new int[] {1, -1, 24, 40, LEAST, MOST}) {
            Checks.due("suits(" + strange + ", 0)", x.suits(strange, 0), false);
            Checks.due("suits(0, " + strange + ")", x.suits(0, strange), false);
        }
    }

    /** "False: .. it is not OPEN" */
    static void promise11FalseForOnesThatAreNotOpen() {
        FreshAllotter x = Checks.told("goods 1;customer 0;customer 0;customer 0;lot 0 9 9 0;order 0 0 5 0;order 1 0 1 0;order 2 0 1 0;");
        x.reserve(0);
        dueSuits(x, 1, 3, "111");
        x.deliver(0);
        dueSuits(x, 1, 3, "011");
        x.cancel(1);
        dueSuits(x, 1, 3, "001");
        x.pass(1);
        dueSuits(x, 1, 3, "000");
    }

    /** What suits, a group of signs a lot: 1 for an order that it suits, else 0. */
    private static void dueSuits(FreshAllotter x, int lots, int orders, String want) {
        String[] rows = want.split(" ");
        Checks.due("lots", x.now(3), lots);
        Checks.due("orders", x.now(4), orders);
        for (int lot = 0; lot < lots; lot++) {
            for (int order = 0; order < orders; order++) {
                Checks.due("suits(" + lot + ", " + order + ")", x.suits(lot, order), rows[lot].charAt(order) == '1');
            }
        }
    }
}
