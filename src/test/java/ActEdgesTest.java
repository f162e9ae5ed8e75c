import java.util.ArrayDeque;
import java.util.Arrays;
import java.util.function.Consumer;
import java.util.function.ToIntFunction;

/**
 * The edges of the terms of a day's end and of refused calls, and of promises 17 comes, 18 asks, 19 reserve, 20 cancel,
 * 21 hold, 22 deliver, 23 pass, 24 undo: a test a sentence.
 */
public final class ActEdgesTest {
    private static final int LEAST = Integer.MIN_VALUE;
    private static final int MOST = Integer.MAX_VALUE;

    /** What asks() and would() refuse on day 3 with two goods and two customers. */
    static final int[][] WRONG_ORDERS_ON_DAY_3 = {
        {2, 0, 1, 5}, {-1, 0, 1, 5}, {6, 0, 1, 5}, {LEAST, 0, 1, 5}, {MOST, 0, 1, 5},
        {0, 2, 1, 5}, {0, -1, 1, 5}, {0, 4, 1, 5}, {0, LEAST, 1, 5}, {0, MOST, 1, 5},
        {0, 0, 0, 5}, {0, 0, -1, 5}, {0, 0, 100, 5}, {0, 0, LEAST, 5}, {0, 0, MOST, 5},
        {0, 0, 1, 2}, {0, 0, 1, 103}, {0, 0, 1, -1}, {0, 0, 1, LEAST}, {0, 0, 1, MOST}};

    private static final int[][] WRONG_LOTS_ON_DAY_3 = {
        {2, 5, 1, 0}, {-1, 5, 1, 0}, {4, 5, 1, 0}, {LEAST, 5, 1, 0}, {MOST, 5, 1, 0},
        {0, 2, 1, 0}, {0, 103, 1, 0}, {0, -1, 1, 0}, {0, LEAST, 1, 0}, {0, MOST, 1, 0},
        {0, 5, 0, 0}, {0, 5, -1, 0}, {0, 5, 100, 0}, {0, 5, LEAST, 0}, {0, 5, MOST, 0},
        {0, 5, 1, -1}, {0, 5, 1, 1000}, {0, 5, 1, LEAST}, {0, 5, 1, MOST}};

    public static void main(String[] args) {
        Checks.runAll(ActEdgesTest.class);
    }

    // ---- "A DAY ENDS"

    /** "each OPEN ORDER of that DAY LAPSES" */
    static void termsOpenOrdersOfTheDayLapse() {
        FreshAllotter x = Checks.told("goods 2;customer 0;customer 0;order 0 0 1 0;order 1 0 1 1;order 0 1 1 2;order 1 1 1 1;");
        x.pass(1);
        dueStates(x, 3, 0, 0, 0);
        x.pass(1);
        dueStates(x, 3, 3, 0, 3);
    }

    /** "each OPEN ORDER": delivered and cancelled ones stay so. */
    static void termsOnlyOpenOrdersLapse() {
        FreshAllotter x = Checks.told("goods 1;customer 0;customer 0;lot 0 9 9 0;order 0 0 1 0;order 1 0 1 0;");
        x.reserve(0);
        x.deliver(0);
        x.cancel(1);
        x.pass(1);
        dueStates(x, 1, 2);
        Checks.due("got", x.order(0, 6), 1);
    }

    /** "(what is RESERVED for it is RESERVED no more)" */
    static void termsALapsedOrderHasNothingReserved() {
        FreshAllotter x = Checks.told("goods 1;customer 0;customer 0;lot 0 9 9 0;order 0 0 4 0;order 1 0 3 1;");
        x.reserve(0);
        x.pass(1);
        Checks.due("reserved for it", x.order(0, 5), 0);
        Checks.due("reserved(0, 0)", x.reserved(0, 0), 0);
        Checks.due("reserved of the lot", x.lot(0, 4), 3);
        Checks.due("left of the lot", x.lot(0, 2), 9);
        Checks.due("got", x.order(0, 6), 0);
        Checks.due("delivered in all", x.now(9), 0);
    }

    /** "each LOT with that EXPIRY is written off: WASTE is what is LEFT of it more, LEFT 0" */
    static void termsLotsWithThatExpiryAreWrittenOff() {
        FreshAllotter x = Checks.told("goods 2;lot 0 0 5 0;lot 0 1 6 0;lot 1 0 7 0;lot 1 2 8 0;");
        x.pass(1);
        Checks.due("waste", x.now(8), 12);
        dueLeft(x, 0, 6, 0, 8);
        x.pass(1);
        Checks.due("waste", x.now(8), 18);
        dueLeft(x, 0, 0, 0, 8);
    }

    /** "what is LEFT of it": not what was delivered of it. */
    static void termsOnlyWhatIsLeftIsWaste() {
        FreshAllotter x = Checks.told("goods 1;customer 0;lot 0 0 5 0;order 0 0 3 0;");
        x.reserve(0);
        x.deliver(0);
        x.pass(1);
        Checks.due("waste", x.now(8), 2);
        Checks.due("delivered", x.now(9), 3);
    }

    /** "nothing of it RESERVED": what was reserved of it is waste too. */
    static void termsNothingOfAWrittenOffLotIsReserved() {
        FreshAllotter x = Checks.told("goods 1;customer 0;lot 0 0 5 0;order 0 0 3 0;");
        x.reserve(0);
        x.pass(1);
        Checks.due("reserved of it", x.lot(0, 4), 0);
        Checks.due("reserved in all", x.now(7), 0);
        Checks.due("waste", x.now(8), 5);
    }

    /** "TODAY is one more" */
    static void termsTodayIsOneMore() {
        FreshAllotter x = new FreshAllotter();
        for (int day = 1; day <= 5; day++) {
            Checks.due("pass(1)", x.pass(1), day);
            Checks.due("today", x.now(0), day);
        }
    }

    // ---- promise 17

    /** "EXPIRY TODAY to TODAY and 99" */
    static void promise17ExpiryFromTodayTo99On() {
        FreshAllotter x = onDay(3, "goods 1;");
        Checks.due("comes() of yesterday", x.comes(0, 2, 1, 0), -1);
        Checks.due("comes() of today", x.comes(0, 3, 1, 0), 0);
        Checks.due("comes() of today and 99", x.comes(0, 102, 1, 0), 1);
        Checks.due("comes() of today and 100", x.comes(0, 103, 1, 0), -1);
        FreshAllotter y = onDay(900, "goods 1;");
        Checks.due("comes() of day 999", y.comes(0, 999, 1, 999), 0);
        Checks.due("comes() of day 1000", y.comes(0, 1000, 1, 0), -1);
    }

    /** "SUM 1 to 99" */
    static void promise17SumFrom1To99() {
        FreshAllotter x = new FreshAllotter();
        Checks.due("comes() of 0", x.comes(0, 5, 0, 0), -1);
        Checks.due("comes() of 1", x.comes(0, 5, 1, 0), 0);
        Checks.due("comes() of 99", x.comes(0, 5, 99, 0), 1);
        Checks.due("comes() of 100", x.comes(0, 5, 100, 0), -1);
        dueLeft(x, 1, 99);
    }

    /** "HOLD 0 to 999" */
    static void promise17HoldFrom0To999() {
        FreshAllotter x = new FreshAllotter();
        Checks.due("comes() held till -1", x.comes(0, 5, 1, -1), -1);
        Checks.due("comes() held till 0", x.comes(0, 5, 1, 0), 0);
        Checks.due("comes() held till 999", x.comes(0, 5, 1, 999), 1);
        Checks.due("comes() held till 1000", x.comes(0, 5, 1, 1000), -1);
        Checks.dueLot(x, 1, 0, 5, 1, 999, 0);
    }

    /** "NONE: no such GOOD, numbers not as told" */
    static void promise17NoneForWrongNumbers() {
        FreshAllotter x = onDay(3, "goods 2;");
        for (int[] n : WRONG_LOTS_ON_DAY_3) {
            Checks.due("comes" + Arrays.toString(n), x.comes(n[0], n[1], n[2], n[3]), -1);
        }
        Checks.due("lots", x.now(3), 0);
        Checks.due("comes(1, 5, 1, 0)", x.comes(1, 5, 1, 0), 0);
    }

    /** "-2: there are 24" */
    static void promise17MinusTwoWith24() {
        FreshAllotter x = withLots(23);
        Checks.due("comes() with 23", x.comes(0, 9, 1, 0), 23);
        Checks.due("comes() with 24", x.comes(0, 9, 1, 0), -2);
        Checks.due("lots", x.now(3), 24);
        FreshAllotter y = Checks.told("goods 1;" + "lot 0 9 1 0;".repeat(12));
        for (int lot = 12; lot < 24; lot++) {
            Checks.due("comes() with " + lot, y.comes(0, 9, 1, 0), lot);
        }
        Checks.due("comes() with 24, 12 of them of a text", y.comes(0, 9, 1, 0), -2);
    }

    /** "-2: there are 24": a LOT of which nothing is LEFT is one of them. */
    static void promise17AnEmptyLotCounts() {
        FreshAllotter x = withLots(24);
        x.pass(10);
        Checks.due("left", x.now(6), 0);
        Checks.due("comes()", x.comes(0, 12, 1, 0), -2);
    }

    /** "The first that is so": NONE goes ahead of -2. */
    static void promise17NoneGoesAheadOfMinusTwo() {
        FreshAllotter x = withLots(24);
        x.pass(3);
        int[][] wrong = {{1, 5, 1, 0}, {0, 2, 1, 0}, {0, 103, 1, 0}, {0, 5, 0, 0}, {0, 5, 100, 0}, {0, 5, 1, -1}, {0, 5, 1, 1000}};
        for (int[] n : wrong) {
            Checks.due("comes" + Arrays.toString(n) + " with 24", x.comes(n[0], n[1], n[2], n[3]), -1);
        }
    }

    // ---- promise 18

    /** "DAY TODAY to TODAY and 99" */
    static void promise18DayFromTodayTo99On() {
        FreshAllotter x = onDay(3, "goods 1;customer 0;customer 0;");
        Checks.due("asks() for yesterday", x.asks(0, 0, 1, 2), -1);
        Checks.due("asks() for today", x.asks(0, 0, 1, 3), 0);
        Checks.due("asks() for today and 99", x.asks(1, 0, 1, 102), 1);
        x.cancel(1);
        Checks.due("asks() for today and 100", x.asks(1, 0, 1, 103), -1);
        FreshAllotter y = onDay(900, "goods 1;customer 0;");
        Checks.due("asks() for day 1000", y.asks(0, 0, 1, 1000), -1);
        Checks.due("asks() for day 999", y.asks(0, 0, 1, 999), 0);
    }

    /** "SUM 1 to 99" */
    static void promise18SumFrom1To99() {
        FreshAllotter x = Checks.told("goods 1;customer 0;customer 0;");
        Checks.due("asks() for 0", x.asks(0, 0, 0, 1), -1);
        Checks.due("asks() for 100", x.asks(0, 0, 100, 1), -1);
        Checks.due("asks() for 1", x.asks(0, 0, 1, 1), 0);
        Checks.due("asks() for 99", x.asks(1, 0, 99, 1), 1);
        Checks.dueOrder(x, 1, 1, 0, 99, 1, 0, 0, 0);
    }

    /** "NONE: no such ones, numbers not as told" */
    static void promise18NoneForWrongNumbers() {
        FreshAllotter x = onDay(3, "goods 2;customer 0;customer 0;");
        for (int[] n : WRONG_ORDERS_ON_DAY_3) {
            Checks.due("asks" + Arrays.toString(n), x.asks(n[0], n[1], n[2], n[3]), -1);
        }
        Checks.due("orders", x.now(4), 0);
        Checks.due("asks(1, 1, 1, 5)", x.asks(1, 1, 1, 5), 0);
    }

    /** "-2: the CUSTOMER has an OPEN one for the GOOD" */
    static void promise18HasAnOpenOne() {
        FreshAllotter x = Checks.told("goods 2;customer 0;customer 0;order 0 0 5 5;");
        Checks.due("asks() again", x.asks(0, 0, 1, 1), -2);
        Checks.due("asks() for another good", x.asks(0, 1, 1, 1), 1);
        Checks.due("asks() of another customer", x.asks(1, 0, 1, 1), 2);
        Checks.due("asks() again of one that asked", x.asks(1, 0, 1, 1), -2);
    }

    /** "has an OPEN one": one that is not OPEN any more does not count. */
    static void promise18OneThatIsNotOpenDoesNotCount() {
        FreshAllotter x = Checks.told("goods 1;customer 0;lot 0 9 9 0;order 0 0 5 0;");
        x.reserve(0);
        x.deliver(0);
        Checks.due("asks() after a delivery", x.asks(0, 0, 1, 0), 1);
        x.cancel(1);
        Checks.due("asks() after cancel()", x.asks(0, 0, 1, 0), 2);
        x.pass(1);
        Checks.due("asks() after one that has lapsed", x.asks(0, 0, 1, 1), 3);
        Checks.due("asks() again", x.asks(0, 0, 1, 1), -2);
    }

    /** "-3: there are 40" */
    static void promise18MinusThreeWith40() {
        FreshAllotter x = withOrders(39);
        Checks.due("asks() with 39", x.asks(0, 0, 1, 0), 39);
        x.cancel(39);
        Checks.due("asks() with 40", x.asks(0, 0, 1, 0), -3);
        Checks.due("orders", x.now(4), 40);
        x.undo();
        x.undo();
        Checks.due("asks() when the fortieth is undone", x.asks(1, 0, 1, 0), 39);
    }

    /** "The first that is so": NONE, then -2, then -3. */
    static void promise18NoneThenMinusTwoThenMinusThree() {
        FreshAllotter x = withOrders(39);
        x.asks(0, 0, 1, 9);
        Checks.due("wrong, an open one, 40", x.asks(0, 0, 0, 9), -1);
        Checks.due("wrong, 40", x.asks(1, 0, 1, 100), -1);
        Checks.due("an open one, 40", x.asks(0, 0, 1, 9), -2);
        Checks.due("40", x.asks(1, 0, 1, 9), -3);
    }

    // ---- promise 19

    /** "All of a GOOD is RESERVED by the PLAN": and nothing of another GOOD. */
    static void promise19OneGoodAlone() {
        FreshAllotter x = Checks.told("goods 2;customer 0;lot 0 9 9 0;lot 1 9 9 0;order 0 0 5 5;order 0 1 6 5;");
        Checks.due("reserve(1)", x.reserve(1), 0);
        Checks.due("reserved(0, 0)", x.reserved(0, 0), 0);
        Checks.due("reserved(1, 1)", x.reserved(1, 1), 6);
        Checks.due("reserve(0)", x.reserve(0), 0);
        Checks.due("reserved(0, 0)", x.reserved(0, 0), 5);
        Checks.due("reserved(1, 1)", x.reserved(1, 1), 6);
    }

    /** "how much that was RESERVED of a LOT for an ORDER is so no more, in all": 0 if all stays. */
    static void promise19ZeroIfAllStays() {
        FreshAllotter x = Checks.told("goods 1;customer 0;customer 0;lot 0 9 9 0;order 0 0 5 5;");
        Checks.due("reserve(0) with nothing reserved", x.reserve(0), 0);
        Checks.due("reserve(0) again", x.reserve(0), 0);
        x.asks(1, 0, 3, 6);
        Checks.due("reserve(0) with more for another", x.reserve(0), 0);
        Checks.due("reserved in all", x.now(7), 8);
        Checks.due("reserve(0) of an object with nothing", new FreshAllotter().reserve(0), 0);
    }

    /** "how much that was RESERVED of a LOT for an ORDER is so no more": from LOT to LOT, from ORDER to ORDER. */
    static void promise19HowMuchIsSoNoMore() {
        FreshAllotter x = Checks.told("goods 1;customer 0;customer 0;lot 0 9 9 0;order 0 0 7 5;");
        x.reserve(0);
        x.comes(0, 8, 3, 0);
        // 3 of order 0 go from lot 0 to the older lot 1.
        Checks.due("reserve(0) with an older lot", x.reserve(0), 3);
        Checks.due("reserved(0, 0)", x.reserved(0, 0), 4);
        Checks.due("reserved(1, 0)", x.reserved(1, 0), 3);
        x.asks(1, 0, 9, 4);
        // Order 1 comes ahead: it has all 3 of lot 1 and 6 of lot 0, of which 3 are left for order 0.
        Checks.due("reserve(0) with an order ahead", x.reserve(0), 4);
        Checks.due("reserved(0, 0)", x.reserved(0, 0), 3);
        Checks.due("reserved(1, 0)", x.reserved(1, 0), 0);
        Checks.due("reserved(0, 1)", x.reserved(0, 1), 6);
        Checks.due("reserved(1, 1)", x.reserved(1, 1), 3);
    }

    /** "NONE: no such GOOD" */
    static void promise19NoneForNoSuchGood() {
        FreshAllotter x = Checks.told("goods 2;");
        Checks.due("reserve(1)", x.reserve(1), 0);
        for (int good : new int[] {2, -1, 4, LEAST, MOST}) {
            Checks.due("reserve(" + good + ")", x.reserve(good), -1);
        }
        Checks.due("what can be undone", x.now(10), 1);
    }

    // ---- promise 20

    /** "what is RESERVED for it is so no more: how much that was" */
    static void promise20HowMuchWasReserved() {
        FreshAllotter x = Checks.told("goods 1;customer 0;customer 0;lot 0 9 4 0;lot 0 9 9 0;order 0 0 7 5;order 1 0 2 5;");
        x.reserve(0);
        Checks.due("cancel(0)", x.cancel(0), 7);
        dueStates(x, 2, 0);
        Checks.due("reserved for it", x.order(0, 5), 0);
        Checks.due("reserved in all", x.now(7), 2);
        Checks.due("left", x.now(6), 13);
    }

    /** "what is RESERVED for it is so no more": 1 is something too, and no later ORDER of the CUSTOMER has it. */
    static void promise20OneIsReservedNoMore() {
        FreshAllotter x = Checks.told("goods 1;customer 0;lot 0 9 1 0;order 0 0 1 5;");
        x.reserve(0);
        Checks.due("cancel(0)", x.cancel(0), 1);
        Checks.due("reserved of the lot", x.lot(0, 4), 0);
        x.asks(0, 0, 1, 5);
        Checks.due("reserved for the next order", x.order(1, 5), 0);
    }

    /** "how much that was": 0 of one with nothing RESERVED. */
    static void promise20ZeroWithNothingReserved() {
        FreshAllotter x = Checks.told("goods 1;customer 0;order 0 0 7 5;");
        Checks.due("cancel(0)", x.cancel(0), 0);
        dueStates(x, 2);
        Checks.due("what can be undone", x.now(10), 1);
    }

    /** "NONE: no such one" */
    static void promise20NoneForNoSuchOne() {
        FreshAllotter x = Checks.told("goods 1;customer 0;order 0 0 7 5;");
        for (int order : new int[] {1, -1, 40, LEAST, MOST}) {
            Checks.due("cancel(" + order + ")", x.cancel(order), -1);
        }
        dueStates(x, 0);
    }

    /** "NONE: .. it is not OPEN" */
    static void promise20NoneForOnesThatAreNotOpen() {
        FreshAllotter x = busy();
        for (int order = 0; order < 3; order++) {
            Checks.due("cancel(" + order + ")", x.cancel(order), -1);
        }
        dueStates(x, 1, 2, 3, 0);
    }

    // ---- promise 21

    /** "HOLD of a LOT is so (0 to 999)" */
    static void promise21HoldFrom0To999() {
        FreshAllotter x = Checks.told("goods 1;lot 0 9 9 5;");
        Checks.due("hold(0, -1)", x.hold(0, -1), -1);
        Checks.due("hold(0, 1000)", x.hold(0, 1000), -1);
        Checks.due("hold(0, least)", x.hold(0, LEAST), -1);
        Checks.due("hold(0, greatest)", x.hold(0, MOST), -1);
        Checks.due("hold of it", x.lot(0, 3), 5);
        Checks.due("hold(0, 0)", x.hold(0, 0), 0);
        Checks.due("hold of it", x.lot(0, 3), 0);
        Checks.due("hold(0, 999)", x.hold(0, 999), 0);
        Checks.due("hold of it", x.lot(0, 3), 999);
    }

    /** "what is RESERVED of it for ORDERS that it does not SUIT any more is so no more: how much that was" */
    static void promise21WhatSuitsNoMoreIsReleased() {
        FreshAllotter x = Checks.told("goods 1;customer 0;customer 0;customer 0;lot 0 9 20 0;lot 0 9 9 0;"
                + "order 0 0 4 3;order 1 0 5 4;order 2 0 6 5;");
        x.reserve(0);
        Checks.due("hold(0, 3)", x.hold(0, 3), 0);
        Checks.due("hold(0, 5)", x.hold(0, 5), 9);
        Checks.due("reserved(0, 2), held till its day", x.reserved(0, 2), 6);
        Checks.due("reserved in all", x.now(7), 6);
        Checks.due("hold(0, 6)", x.hold(0, 6), 6);
        Checks.due("hold(0, 0)", x.hold(0, 0), 0);
        Checks.due("nothing is reserved anew", x.now(7), 0);
    }

    /** "what is RESERVED of it": of this LOT alone. */
    static void promise21OfThisLotAlone() {
        FreshAllotter x = Checks.told("goods 2;customer 0;lot 0 9 2 0;lot 0 9 9 0;lot 1 9 9 0;order 0 0 6 3;order 0 1 5 3;");
        x.reserve(0);
        x.reserve(1);
        Checks.due("hold(1, 999)", x.hold(1, 999), 4);
        Checks.due("reserved(0, 0)", x.reserved(0, 0), 2);
        Checks.due("reserved(2, 1)", x.reserved(2, 1), 5);
    }

    /** "NONE: no such one" */
    static void promise21NoneForNoSuchOne() {
        FreshAllotter x = Checks.told("goods 1;lot 0 9 9 5;");
        for (int lot : new int[] {1, -1, 24, LEAST, MOST}) {
            Checks.due("hold(" + lot + ", 0)", x.hold(lot, 0), -1);
        }
        Checks.due("what can be undone", x.now(10), 0);
    }

    // ---- promise 22

    /** "An OPEN ORDER of TODAY": not of the day ahead or behind. */
    static void promise22OfTodayAlone() {
        FreshAllotter x = Checks.told("goods 1;customer 0;customer 0;lot 0 9 9 0;order 0 0 2 1;order 1 0 3 2;");
        x.reserve(0);
        Checks.due("deliver(0) on the day ahead", x.deliver(0), -1);
        x.pass(1);
        Checks.due("deliver(1) on the day ahead", x.deliver(1), -1);
        Checks.due("deliver(0) on its day", x.deliver(0), 2);
        x.pass(2);
        Checks.due("deliver(1) on the day behind", x.deliver(1), -1);
    }

    /** "for which something is RESERVED" */
    static void promise22SomethingIsReserved() {
        FreshAllotter x = Checks.told("goods 1;customer 0;customer 0;lot 0 9 3 0;order 0 0 2 0;order 1 0 3 0;");
        Checks.due("deliver(0) with nothing reserved", x.deliver(0), -1);
        x.reserve(0);
        Checks.due("deliver(1) with 1 of 3 reserved", x.deliver(1), 1);
        Checks.due("got", x.order(1, 6), 1);
        x.hold(0, 1);
        Checks.due("deliver(0) with all released", x.deliver(0), -1);
        dueStates(x, 0, 1);
    }

    /** "all that is RESERVED goes from the LOTS, it GOT so much": of each LOT, and no more than that. */
    static void promise22AllThatIsReservedGoes() {
        FreshAllotter x = Checks.told("goods 1;customer 0;customer 0;lot 0 9 3 0;lot 0 8 5 0;order 0 0 6 0;order 1 0 1 0;");
        x.reserve(0);
        Checks.due("deliver(0)", x.deliver(0), 6);
        dueLeft(x, 2, 0);
        Checks.dueOrder(x, 0, 0, 0, 6, 0, 1, 0, 6);
        Checks.due("reserved for the other", x.order(1, 5), 1);
        Checks.due("delivered in all", x.now(9), 6);
        Checks.due("deliver(1)", x.deliver(1), 1);
        Checks.due("delivered in all", x.now(9), 7);
    }

    /** "LATEST of the CUSTOMER is the greatest EXPIRY of these LOTS" */
    static void promise22LatestIsTheGreatestExpiry() {
        FreshAllotter x = Checks.told("goods 1;customer 0;customer 0;lot 0 9 3 0;lot 0 7 5 0;lot 0 20 5 0;order 0 0 6 0;order 1 0 1 0;");
        x.reserve(0);
        x.deliver(0);
        Checks.due("latest of customer 0", x.customer(0, 0), 9);
        Checks.due("latest of customer 1", x.customer(1, 0), -1);
        x.asks(0, 0, 5, 0);
        x.reserve(0);
        x.deliver(2);
        Checks.due("latest after a younger lot", x.customer(0, 0), 20);
    }

    /** "NONE: no such one, not so" */
    static void promise22NoneForNoSuchOne() {
        FreshAllotter x = Checks.told("goods 1;customer 0;lot 0 9 3 0;order 0 0 2 0;");
        x.reserve(0);
        for (int order : new int[] {1, -1, 40, LEAST, MOST}) {
            Checks.due("deliver(" + order + ")", x.deliver(order), -1);
        }
        Checks.due("delivered in all", x.now(9), 0);
    }

    /** "NONE: .. not so": of one that is not OPEN. */
    static void promise22NoneForOnesThatAreNotOpen() {
        FreshAllotter x = Checks.told("goods 1;customer 0;customer 0;lot 0 9 9 0;order 0 0 2 0;order 1 0 2 0;");
        x.reserve(0);
        x.deliver(0);
        x.cancel(1);
        // What is reserved for new orders of the same customers is not reserved for the old ones.
        x.asks(0, 0, 2, 0);
        x.asks(1, 0, 2, 0);
        x.reserve(0);
        Checks.due("deliver() of a delivered one", x.deliver(0), -1);
        Checks.due("deliver() of a cancelled one", x.deliver(1), -1);
        Checks.due("delivered in all", x.now(9), 2);
    }

    // ---- promise 23

    /** "So many DAYS (1 to 99) END" .. "NONE: another number" */
    static void promise23From1To99Days() {
        FreshAllotter x = new FreshAllotter();
        for (int days : new int[] {0, -1, 100, LEAST, MOST}) {
            Checks.due("pass(" + days + ")", x.pass(days), -1);
        }
        Checks.due("today", x.now(0), 0);
        Checks.due("pass(1)", x.pass(1), 1);
        Checks.due("pass(99)", x.pass(99), 100);
    }

    /** "So many DAYS END": each of them. */
    static void promise23EachDayEnds() {
        FreshAllotter x = Checks.told("goods 2;customer 0;lot 0 0 1 0;lot 0 4 2 0;lot 0 5 4 0;order 0 0 1 4;order 0 1 1 5;");
        Checks.due("pass(5)", x.pass(5), 5);
        dueStates(x, 3, 0);
        dueLeft(x, 0, 0, 4);
        Checks.due("waste", x.now(8), 3);
    }

    /** "NONE: .. TODAY would be above 900" */
    static void promise23NotAboveDay900() {
        FreshAllotter x = onDay(890, "goods 1;");
        Checks.due("pass(11) to 901", x.pass(11), -1);
        Checks.due("pass(99) to 989", x.pass(99), -1);
        Checks.due("today", x.now(0), 890);
        Checks.due("pass(10) to 900", x.pass(10), 900);
        Checks.due("pass(1) to 901", x.pass(1), -1);
        Checks.due("today", x.now(0), 900);
        Checks.due("undo()", x.undo() >= 0, true);
        Checks.due("pass(9) to 899", x.pass(9), 899);
    }

    // ---- promise 24

    /** "The latest comes(), asks(), reserve(), cancel(), hold(), deliver(), pass() that was done is undone" */
    static void promise24EachActIsUndone() {
        dueUndone("comes", x -> Checks.due("comes()", x.comes(1, 40, 41, 42), 3));
        dueUndone("asks", x -> Checks.due("asks()", x.asks(0, 0, 30, 20), 5));
        dueUndone("reserve", x -> Checks.due("reserve()", x.reserve(1), 0));
        dueUndone("reserve that takes away", x -> Checks.due("reserve()", x.reserve(0), 2));
        dueUndone("cancel", x -> Checks.due("cancel()", x.cancel(3), 4));
        dueUndone("hold", x -> Checks.due("hold()", x.hold(0, 999), 4));
        dueUndone("deliver", x -> Checks.due("deliver()", x.deliver(3), 4));
        dueUndone("pass", x -> Checks.due("pass()", x.pass(99), 101));
    }

    /** "that was done": also one that changes nothing but that it can be undone. */
    static void promise24AnActWithoutChangeIsOneToo() {
        FreshAllotter x = Checks.told("goods 1;lot 0 9 9 5;");
        x.pass(1);
        x.hold(0, 5);
        x.reserve(0);
        Checks.due("undo() of reserve()", x.undo(), 2);
        Checks.due("undo() of hold()", x.undo(), 1);
        Checks.due("today", x.now(0), 1);
        Checks.due("undo() of pass()", x.undo(), 0);
        Checks.due("today", x.now(0), 0);
    }

    /** "that was done": a refused call is not. */
    static void promise24ARefusedActIsNotUndone() {
        FreshAllotter x = Checks.told("goods 1;customer 0;lot 0 9 9 5;order 0 0 5 5;");
        x.pass(1);
        x.comes(0, 0, 1, 0);
        x.asks(0, 0, 1, 1);
        x.reserve(1);
        x.cancel(1);
        x.hold(0, 1000);
        x.deliver(0);
        x.pass(0);
        Checks.due("what can be undone", x.now(10), 1);
        Checks.due("undo()", x.undo(), 0);
        Checks.due("today", x.now(0), 0);
    }

    /** "how many more can be (10 at most are kept)" */
    static void promise24TenAtMostAreKept() {
        FreshAllotter x = new FreshAllotter();
        for (int i = 0; i < 11; i++) {
            x.pass(1);
        }
        for (int more = 9; more >= 0; more--) {
            Checks.due("undo()", x.undo(), more);
            Checks.due("today", x.now(0), more + 1);
        }
        Checks.due("undo() of an eleventh", x.undo(), -1);
        Checks.due("today", x.now(0), 1);
        FreshAllotter y = new FreshAllotter();
        for (int i = 0; i < 10; i++) {
            y.pass(1);
        }
        for (int more = 9; more >= 0; more--) {
            Checks.due("undo()", y.undo(), more);
        }
        Checks.due("today when all ten are undone", y.now(0), 0);
    }

    /** "(10 at most are kept)": however often they were kept and undone. */
    static void promise24KeptAndUndoneInTurn() {
        FreshAllotter x = new FreshAllotter();
        ArrayDeque<Integer> days = new ArrayDeque<>();
        for (int i = 0; i < 200; i++) {
            // Rounds of 13 acts and 7 undone, so that what is kept wraps around at every place.
            if (i % 20 < 13) {
                days.push(x.now(0));
                Checks.due("pass() no. " + i, x.pass(1 + i % 3), days.peek() + 1 + i % 3);
                if (days.size() > 10) {
                    days.removeLast();
                }
            } else {
                int day = days.pop();
                Checks.due("undo() no. " + i, x.undo(), days.size());
                Checks.due("today", x.now(0), day);
            }
        }
    }

    /** "NONE: none is" */
    static void promise24NoneIfNoneIs() {
        FreshAllotter x = new FreshAllotter();
        Checks.due("undo() of a new object", x.undo(), -1);
        x.pass(1);
        x.undo();
        Checks.due("undo() once more", x.undo(), -1);
        Checks.due("undo() once more", x.undo(), -1);
        Checks.due("what can be undone", x.now(10), 0);
        Checks.due("today", x.now(0), 0);
    }

    /** "The latest comes() .. is undone": neither text() and fault() nor the tape go back. */
    static void promise24TheTapeIsNotUndone() {
        FreshAllotter x = new FreshAllotter();
        x.pass(1);
        Checks.tell(x, "goods 9;");
        Checks.feedText(x, "goods 1;");
        x.undo();
        Checks.due("fault()", x.fault(), 2);
        Checks.due("bytes", x.now(11), 8);
        Checks.due("text()", x.text(), 1);
    }

    // ---- "A refused call, one that throws changes nothing"

    /** "A refused call .. changes nothing" */
    static void termsARefusedCallChangesNothing() {
        dueNoChange("end(-1)", x -> x.end(-1) ? 1 : 0, 0);
        dueNoChange("end(21)", x -> x.end(21) ? 1 : 0, 0);
        dueNoChange("comes() wrongly", x -> x.comes(0, 1, 1, 0), -1);
        dueNoChange("asks() wrongly", x -> x.asks(0, 0, 1, 1), -1);
        dueNoChange("asks() again", x -> x.asks(2, 0, 1, 5), -2);
        dueNoChange("would() wrongly", x -> x.would(0, 0, 1, 1), -1);
        dueNoChange("would() again", x -> x.would(2, 0, 1, 5), -2);
        dueNoChange("reserve(2)", x -> x.reserve(2), -1);
        dueNoChange("cancel(0)", x -> x.cancel(0), -1);
        dueNoChange("cancel(5)", x -> x.cancel(5), -1);
        dueNoChange("hold(3, 0)", x -> x.hold(3, 0), -1);
        dueNoChange("hold(0, 1000)", x -> x.hold(0, 1000), -1);
        dueNoChange("deliver(1)", x -> x.deliver(1), -1);
        dueNoChange("deliver(4)", x -> x.deliver(4), -1);
        dueNoChange("deliver(5)", x -> x.deliver(5), -1);
        dueNoChange("pass(0)", x -> x.pass(0), -1);
        dueNoChange("pass(100)", x -> x.pass(100), -1);
    }

    /** "one that throws changes nothing" */
    static void termsACallThatThrowsChangesNothing() {
        Snapshot.dueNoChange("lot(3, 0)", ActEdgesTest::busy, x -> Checks.dueThrowsOfLot(x, 3, 0));
        Snapshot.dueNoChange("lot(0, 5)", ActEdgesTest::busy, x -> Checks.dueThrowsOfLot(x, 0, 5));
        Snapshot.dueNoChange("order(5, 0)", ActEdgesTest::busy, x -> Checks.dueThrowsOfOrder(x, 5, 0));
        Snapshot.dueNoChange("order(0, 7)", ActEdgesTest::busy, x -> Checks.dueThrowsOfOrder(x, 0, 7));
    }

    /** Calls that only tell something change nothing either. */
    static void termsACallThatTellsChangesNothing() {
        dueNoChange("would()", x -> x.would(0, 0, 50, 2), 5);
        dueNoChange("slack(3)", x -> x.slack(3), 0);
        dueNoChange("plan(NONE, 3)", x -> x.plan(-1, 3), 4);
        dueNoChange("plan(2, 3)", x -> x.plan(2, 3), 2);
        dueNoChange("waste(0, 7)", x -> x.waste(0, 7), 2);
        dueNoChange("least(0, 7)", x -> x.least(0, 7), 0);
        dueNoChange("suits(0, 3)", x -> x.suits(0, 3) ? 1 : 0, 1);
        dueNoChange("customer(0, 0)", x -> x.customer(0, 0), 8);
    }

    /** "A refused call .. changes nothing": of a full tape, and with 24 lots and 40 orders. */
    static void termsARefusedCallChangesNothingWhenFull() {
        FreshAllotter x = withLots(24);
        Checks.due("comes()", x.comes(0, 9, 9, 9), -2);
        Checks.dueLot(x, 23, 0, 9, 1, 0, 0);
        Checks.due("undo()", x.undo(), 9);
        Checks.due("lots", x.now(3), 23);
        FreshAllotter y = withOrders(40);
        Checks.due("asks()", y.asks(0, 0, 9, 9), -3);
        Checks.due("how the fortieth is", y.order(39, 4), 2);
        Checks.due("undo()", y.undo(), 9);
        Checks.due("how the fortieth is when its cancel() is undone", y.order(39, 4), 0);
        FreshAllotter z = onDay(900, "goods 1;lot 0 9 9 9;");
        int undone = z.now(10);
        Checks.due("pass(1)", z.pass(1), -1);
        Checks.due("what can be undone", z.now(10), undone);
        Checks.due("undo()", z.undo(), undone - 1);
    }

    // ---- what the tests share

    /** So many orders, each of customer 0 for good 0, each cancelled; there is a customer 1 too. */
    static FreshAllotter withOrders(int orders) {
        FreshAllotter x = Checks.told("goods 1;customer 0;customer 0;");
        for (int order = 0; order < orders; order++) {
            Checks.due("asks()", x.asks(0, 0, 1, 0), order);
            Checks.due("cancel()", x.cancel(order), 0);
        }
        return x;
    }

    private static FreshAllotter withLots(int lots) {
        FreshAllotter x = new FreshAllotter();
        for (int lot = 0; lot < lots; lot++) {
            Checks.due("comes()", x.comes(0, 9, 1, 0), lot);
        }
        return x;
    }

    private static FreshAllotter onDay(int day, String text) {
        FreshAllotter x = Checks.told(text);
        while (x.now(0) < day) {
            x.pass(Math.min(99, day - x.now(0)));
        }
        return x;
    }

    /**
     * On day 2: order 0 is delivered, 1 cancelled, 2 lapsed, 3 open for today with all of its 4 reserved of lot 0, though
     * the plan would take 2 of them of lot 2, which is older and came later; 4 open for a later day with nothing reserved.
     * The tape has bytes, text() had a fault.
     */
    private static FreshAllotter busy() {
        FreshAllotter x = Checks.told("goods 2;customer 0;customer 0;customer 1;lot 0 8 9 0;lot 1 0 5 0;"
                + "order 0 0 2 0;order 1 0 3 0;order 1 1 1 1;order 2 0 4 2;order 0 1 6 9;");
        x.reserve(0);
        Checks.due("deliver(0)", x.deliver(0), 2);
        Checks.due("cancel(1)", x.cancel(1), 3);
        Checks.due("pass(2)", x.pass(2), 2);
        Checks.due("comes()", x.comes(0, 7, 2, 0), 2);
        Checks.tell(x, "goods 7;");
        Checks.feedText(x, "goods 1;customer 1;x");
        return x;
    }

    private static void dueNoChange(String name, ToIntFunction<FreshAllotter> call, int want) {
        Snapshot.dueNoChange(name, ActEdgesTest::busy, x -> Checks.due(name, call.applyAsInt(x), want));
    }

    private static void dueUndone(String name, Consumer<FreshAllotter> act) {
        FreshAllotter x = busy();
        FreshAllotter twin = busy();
        act.accept(x);
        Checks.due("what can be undone after " + name, x.now(10), twin.now(10) + 1);
        Checks.due("undo() of " + name, x.undo(), twin.now(10));
        Snapshot.dueLike(name + " and undo()", x, twin);
    }

    private static void dueStates(FreshAllotter x, int... want) {
        for (int order = 0; order < want.length; order++) {
            Checks.due("how order " + order + " is", x.order(order, 4), want[order]);
        }
    }

    private static void dueLeft(FreshAllotter x, int... want) {
        for (int lot = 0; lot < want.length; lot++) {
            Checks.due("left of lot " + lot, x.lot(lot, 2), want[lot]);
        }
    }
}
