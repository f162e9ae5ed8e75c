import java.util.Arrays;

/** The edges of the terms of the plan, and of promises 12 plan, 13 waste, 14 least, 15 would, 16 slack: a test a sentence. */
public final class PlanEdgesTest {
    private static final int LEAST = Integer.MIN_VALUE;
    private static final int MOST = Integer.MAX_VALUE;
    private static final String THREE_CUSTOMERS = "goods 1;customer 0;customer 0;customer 0;";

    public static void main(String[] args) {
        Checks.runAll(PlanEdgesTest.class);
    }

    // ---- "The PLAN of a GOOD"

    /** "its OPEN ORDERS in TURN (by DAY" */
    static void termsPlanTurnGoesByDay() {
        FreshAllotter x = Checks.told(THREE_CUSTOMERS + "lot 0 9 10 0;order 0 0 9 3;order 1 0 9 1;order 2 0 9 2;");
        duePlan(x, "0 9 1");
        FreshAllotter y = Checks.told(THREE_CUSTOMERS + "customer 0;lot 0 9 10 0;order 0 0 3 2;order 1 0 3 4;order 2 0 3 3;order 3 0 3 1;");
        duePlan(y, "3 1 3 3");
    }

    /** "of like ones by number)", of ORDERS */
    static void termsPlanTurnOfLikeDaysGoesByNumber() {
        FreshAllotter x = Checks.told(THREE_CUSTOMERS + "lot 0 9 10 0;order 2 0 9 3;order 1 0 9 3;order 0 0 9 3;");
        duePlan(x, "9 1 0");
    }

    /** "its LOTS by AGE (by EXPIRY" */
    static void termsPlanAgeGoesByExpiry() {
        FreshAllotter x = Checks.told(THREE_CUSTOMERS + "lot 0 9 4 0;lot 0 7 4 0;lot 0 8 4 0;order 0 0 6 3;");
        duePlan(x, "0", "4", "2");
    }

    /** "of like ones by number)", of LOTS */
    static void termsPlanAgeOfLikeExpiriesGoesByNumber() {
        FreshAllotter x = Checks.told(THREE_CUSTOMERS + "lot 0 9 4 0;lot 0 9 4 0;lot 0 9 4 0;order 0 0 6 3;");
        duePlan(x, "4", "2", "0");
    }

    /** "its OPEN ORDERS": others have nothing by it and take nothing. */
    static void termsPlanIsOfOpenOrdersAlone() {
        FreshAllotter x = Checks.told(THREE_CUSTOMERS + "lot 0 9 4 0;order 0 0 9 1;order 1 0 9 2;");
        duePlan(x, "4 0");
        x.cancel(0);
        Checks.due("plan(0, 1) when the order ahead is cancelled", x.plan(0, 1), 4);
        x.undo();
        x.pass(2);
        Checks.due("plan(0, 1) when the order ahead has lapsed", x.plan(0, 1), 4);
    }

    /** "The PLAN of a GOOD": another GOOD's LOTS and ORDERS are no part of it. */
    static void termsPlanIsOfOneGoodAlone() {
        FreshAllotter x = Checks.told("goods 2;customer 0;lot 1 5 4 0;lot 0 9 4 0;order 0 1 9 1;order 0 0 9 2;");
        duePlan(x, "4 0", "0 4");
    }

    /** "The PLAN of a GOOD": one that was asked for ahead of it, with more LOTS and ORDERS, changes nothing. */
    static void termsPlanAfterAnotherOne() {
        FreshAllotter x = Checks.told("goods 2;customer 0;customer 0;lot 0 5 4 0;lot 0 6 4 0;lot 0 7 4 0;lot 1 9 5 0;"
                + "order 0 0 9 1;order 1 0 2 1;order 0 1 9 2;");
        Checks.due("plan(NONE, 0)", x.plan(-1, 0), 9);
        Checks.due("plan(NONE, 2)", x.plan(-1, 2), 5);
        Checks.due("plan(1, 2) of a lot of the other", x.plan(1, 2), 0);
        Checks.due("least(0, 9)", x.least(0, 9), 1);
        Checks.due("least(1, 9)", x.least(1, 9), 0);
        Checks.due("plan(NONE, 1)", x.plan(-1, 1), 2);
        Checks.due("reserve(1)", x.reserve(1), 0);
        Checks.due("reserved in all", x.now(7), 5);
    }

    /** "of all that could be RESERVED (whatever is now)" */
    static void termsPlanWhateverIsReservedNow() {
        FreshAllotter x = Checks.told(THREE_CUSTOMERS + "lot 0 9 10 0;order 0 0 10 5;");
        x.reserve(0);
        x.asks(1, 0, 7, 4);
        duePlan(x, "3 7");
        x.comes(0, 8, 5, 0);
        duePlan(x, "8 2", "0 5");
        Checks.due("what is reserved stays", x.reserved(0, 0), 10);
    }

    /** "that by which the first ORDER in TURN has most": though the second has less, and less is reserved in all. */
    static void termsPlanTheFirstOrderHasMost() {
        FreshAllotter x = Checks.told("goods 1;customer 0;customer 5;lot 0 9 5 0;order 0 0 5 1;order 1 0 5 1;");
        duePlan(x, "5 0");
        // The second could have all, if the first had not the 5 of lot 0.
        FreshAllotter y = Checks.told("goods 1;customer 0;customer 5;lot 0 9 5 0;lot 0 5 3 0;order 0 0 8 1;order 1 0 5 1;");
        duePlan(y, "5 0", "3 0");
    }

    /** "of these that by which the second has most, and so on": the first leaves it what suits it alone. */
    static void termsPlanTheSecondHasMostOfTheRest() {
        FreshAllotter x = Checks.told("goods 1;customer 0;customer 5;customer 7;lot 0 9 5 0;lot 0 5 5 0;lot 0 7 5 0;"
                + "order 0 0 5 1;order 1 0 5 1;order 2 0 5 1;");
        duePlan(x, "0 0 5", "5 0 0", "0 5 0");
    }

    /** "that by which most is RESERVED of the first LOT by AGE, then of the second, and so on" */
    static void termsPlanTheOldestLotsGoFirst() {
        FreshAllotter x = Checks.told("goods 1;customer 0;customer 0;lot 0 9 6 0;lot 0 8 6 0;lot 0 7 6 0;order 0 0 5 1;order 1 0 5 2;");
        duePlan(x, "0 0", "0 4", "5 1");
    }

    /** "that by which most is RESERVED of the first LOT by AGE": a held one does not go to orders ahead of its HOLD. */
    static void termsPlanAHeldLotGoesToALaterOrder() {
        FreshAllotter x = Checks.told("goods 1;customer 0;customer 0;lot 0 7 5 2;lot 0 9 9 0;order 0 0 5 1;order 1 0 5 2;");
        duePlan(x, "0 5", "5 0");
    }

    /** "most of the first LOT is for the first ORDER, then of the second LOT for it, and so on" */
    static void termsPlanTheFirstOrderHasTheOldest() {
        FreshAllotter x = Checks.told("goods 1;customer 0;customer 0;lot 0 5 4 0;lot 0 9 4 0;order 0 0 4 2;order 1 0 4 2;");
        duePlan(x, "4 0", "0 4");
        FreshAllotter y = Checks.told("goods 1;customer 0;customer 0;lot 0 5 4 0;lot 0 9 4 0;order 0 0 4 3;order 1 0 4 2;");
        duePlan(y, "0 4", "4 0");
    }

    /** "then for the second ORDER, and so on" */
    static void termsPlanTheSecondOrderHasTheOldestOfTheRest() {
        FreshAllotter x = Checks.told(THREE_CUSTOMERS + "lot 0 5 4 0;lot 0 6 4 0;lot 0 7 4 0;order 0 0 3 2;order 1 0 4 2;order 2 0 5 2;");
        duePlan(x, "3 1 0", "0 3 1", "0 0 4");
    }

    /** A PLAN without LOTS, and one of which nothing is LEFT. */
    static void termsPlanOfNothing() {
        FreshAllotter x = Checks.told(THREE_CUSTOMERS + "order 0 0 3 2;");
        Checks.due("plan(NONE, 0) without lots", x.plan(-1, 0), 0);
        FreshAllotter y = Checks.told(THREE_CUSTOMERS + "lot 0 9 3 0;order 0 0 3 0;order 1 0 3 1;");
        y.reserve(0);
        y.deliver(0);
        Checks.due("plan(0, 1) of an empty lot", y.plan(0, 1), 0);
        Checks.due("plan(NONE, 1) of an empty lot", y.plan(-1, 1), 0);
    }

    // ---- promise 12

    /** "of a LOT (NONE: of all)" */
    static void promise12OfAllLotsWithNone() {
        FreshAllotter x = Checks.told(THREE_CUSTOMERS + "lot 0 9 4 0;lot 0 8 3 0;order 0 0 6 1;");
        Checks.due("plan(0, 0)", x.plan(0, 0), 3);
        Checks.due("plan(1, 0)", x.plan(1, 0), 3);
        Checks.due("plan(NONE, 0)", x.plan(FreshAllotter.NONE, 0), 6);
    }

    /** "how much .. would be RESERVED": 0 of a LOT that does not SUIT, of another GOOD too. */
    static void promise12NothingOfALotThatSuitsNot() {
        FreshAllotter x = Checks.told("goods 2;customer 3;lot 0 3 4 0;lot 0 9 4 2;lot 1 9 4 0;order 0 0 6 1;");
        for (int lot = -1; lot < 3; lot++) {
            Checks.due("plan(" + lot + ", 0)", x.plan(lot, 0), 0);
        }
    }

    /** "NONE: no such ones" */
    static void promise12NoneForNoSuchOnes() {
        FreshAllotter x = Checks.told(THREE_CUSTOMERS + "lot 0 9 4 0;order 0 0 4 3;");
        for (int lot : new int[] {1, -2, 24, LEAST, MOST}) {
            Checks.due("plan(" + lot + ", 0)", x.plan(lot, 0), -1);
        }
        for (int order : new int[] {1, -1, 40, LEAST, MOST}) {
            Checks.due("plan(0, " + order + ")", x.plan(0, order), -1);
            Checks.due("plan(NONE, " + order + ")", x.plan(-1, order), -1);
        }
    }

    /** "NONE: .. it is not OPEN" */
    static void promise12NoneForOnesThatAreNotOpen() {
        FreshAllotter x = closed();
        for (int order = 0; order < 3; order++) {
            Checks.due("plan(0, " + order + ")", x.plan(0, order), -1);
            Checks.due("plan(NONE, " + order + ")", x.plan(-1, order), -1);
        }
    }

    // ---- promise 13

    /** "(TODAY to TODAY and 99)" .. "NONE: no such ones" */
    static void promise13DaysFromTodayTo99On() {
        FreshAllotter x = Checks.told("goods 1;lot 0 99 7 0;");
        dueWasteAndLeast(x, 0, -1, -1);
        dueWasteAndLeast(x, 0, 0, 0);
        dueWasteAndLeast(x, 0, 99, 7);
        dueWasteAndLeast(x, 0, 100, -1);
        dueWasteAndLeast(x, 0, LEAST, -1);
        dueWasteAndLeast(x, 0, MOST, -1);
        x.pass(60);
        dueWasteAndLeast(x, 0, 59, -1);
        dueWasteAndLeast(x, 0, 60, 0);
        dueWasteAndLeast(x, 0, 159, 7);
        dueWasteAndLeast(x, 0, 160, -1);
    }

    /** "(TODAY to TODAY and 99)" on the last DAY there is */
    static void promise13DaysFromTheLastDayOn() {
        FreshAllotter x = onDay900("goods 1;");
        x.comes(0, 999, 7, 0);
        dueWasteAndLeast(x, 0, 899, -1);
        dueWasteAndLeast(x, 0, 900, 0);
        dueWasteAndLeast(x, 0, 999, 7);
        dueWasteAndLeast(x, 0, 1000, -1);
    }

    /** "NONE: no such ones", of the GOOD */
    static void promise13NoneForNoSuchGood() {
        FreshAllotter x = Checks.told("goods 2;lot 0 5 7 0;lot 1 5 8 0;");
        dueWasteAndLeast(x, 1, 5, 8);
        for (int good : new int[] {2, -1, 4, LEAST, MOST}) {
            dueWasteAndLeast(x, good, 5, -1);
        }
    }

    /** "of LOTS with an EXPIRY of it or less" */
    static void promise13LotsWithThisExpiryOrLess() {
        FreshAllotter x = Checks.told("goods 2;lot 0 5 1 0;lot 0 6 2 0;lot 0 4 4 0;lot 1 5 8 0;lot 0 0 16 0;");
        int[] want = {16, 16, 16, 16, 20, 21, 23, 23};
        for (int day = 0; day < want.length; day++) {
            dueWasteAndLeast(x, 0, day, want[day]);
        }
    }

    /** "LEFT less RESERVED" */
    static void promise13LeftLessReserved() {
        FreshAllotter x = Checks.told(THREE_CUSTOMERS + "lot 0 5 9 0;lot 0 7 8 0;order 0 0 4 3;order 1 0 5 3;order 2 0 2 6;");
        Checks.due("waste(0, 5) when nothing is reserved", x.waste(0, 5), 9);
        x.reserve(0);
        Checks.due("waste(0, 5) when all is reserved", x.waste(0, 5), 0);
        Checks.due("waste(0, 7)", x.waste(0, 7), 6);
        x.cancel(0);
        Checks.due("waste(0, 5) when 4 are released", x.waste(0, 5), 4);
    }

    /** "would be written off": what is written off already is not so again. */
    static void promise13NotWhatIsWrittenOff() {
        FreshAllotter x = Checks.told("goods 1;lot 0 5 9 0;lot 0 6 2 0;");
        x.pass(6);
        Checks.due("waste in all", x.now(8), 9);
        dueWasteAndLeast(x, 0, 6, 2);
    }

    // ---- promise 14

    /** "by the PLAN of a GOOD (in place of what is RESERVED)" */
    static void promise14InPlaceOfWhatIsReserved() {
        FreshAllotter x = Checks.told(THREE_CUSTOMERS + "lot 0 5 9 0;lot 0 7 8 0;order 0 0 12 3;");
        Checks.due("least(0, 5) when nothing is reserved", x.least(0, 5), 0);
        Checks.due("least(0, 7) when nothing is reserved", x.least(0, 7), 5);
        x.reserve(0);
        x.asks(1, 0, 3, 6);
        Checks.due("waste(0, 7)", x.waste(0, 7), 5);
        Checks.due("least(0, 7) with one more order", x.least(0, 7), 2);
        x.cancel(0);
        Checks.due("waste(0, 5)", x.waste(0, 5), 9);
        Checks.due("least(0, 5)", x.least(0, 5), 9);
        Checks.due("least(0, 7)", x.least(0, 7), 14);
    }

    /** "NONE: as for waste()": the edges are those of promise 13, whose tests ask both. */
    static void promise14NoneAsForWaste() {
        FreshAllotter x = Checks.told(THREE_CUSTOMERS + "lot 0 5 9 0;order 0 0 4 3;");
        int[][] refused = {{1, 5}, {-1, 5}, {0, -1}, {0, 100}, {LEAST, 5}, {MOST, 5}, {0, LEAST}, {0, MOST}};
        for (int[] n : refused) {
            Checks.due("least" + Arrays.toString(n), x.least(n[0], n[1]), -1);
        }
    }

    // ---- promise 15

    /** "one more ORDER": its TURN is by its DAY, and of like ones it is the last. */
    static void promise15ItsTurnGoesByDay() {
        FreshAllotter x = Checks.told(THREE_CUSTOMERS + "lot 0 9 10 0;order 0 0 7 3;");
        Checks.due("would() ahead", x.would(1, 0, 9, 2), 9);
        Checks.due("would() of a like day", x.would(1, 0, 9, 3), 3);
        Checks.due("would() behind", x.would(1, 0, 9, 4), 3);
    }

    /** "How much one more ORDER .. would have": no more than its SUM, 1 to 99, and than suits it. */
    static void promise15NoMoreThanItsSum() {
        FreshAllotter x = Checks.told("goods 1;customer 2;lot 0 9 99 1;lot 0 9 99 1;");
        Checks.due("would() of 1", x.would(0, 0, 1, 1), 1);
        Checks.due("would() of 99", x.would(0, 0, 99, 7), 99);
        Checks.due("would() of too late a day", x.would(0, 0, 99, 8), 0);
        Checks.due("would() ahead of the hold", x.would(0, 0, 99, 0), 0);
    }

    /** "would have by the PLAN": whatever is RESERVED now. */
    static void promise15WhateverIsReserved() {
        FreshAllotter x = Checks.told(THREE_CUSTOMERS + "lot 0 9 10 0;order 0 0 10 3;");
        x.reserve(0);
        Checks.due("would() ahead", x.would(1, 0, 9, 2), 9);
        Checks.due("reserved", x.reserved(0, 0), 10);
    }

    /** "NONE: as for asks()" */
    static void promise15NoneAsForAsks() {
        FreshAllotter x = Checks.told("goods 2;customer 0;customer 0;lot 0 99 9 0;");
        x.pass(3);
        for (int[] n : ActEdgesTest.WRONG_ORDERS_ON_DAY_3) {
            Checks.due("would" + Arrays.toString(n), x.would(n[0], n[1], n[2], n[3]), -1);
        }
        Checks.due("would() of today", x.would(1, 0, 1, 3), 1);
        Checks.due("would() of today and 96", x.would(1, 0, 99, 99), 9);
        Checks.due("would() of today and 99", x.would(1, 0, 99, 102), 0);
    }

    /** "-2: as there": the CUSTOMER has an OPEN one for the GOOD; NONE goes ahead of it. */
    static void promise15HasAnOpenOne() {
        FreshAllotter x = Checks.told("goods 2;customer 0;customer 0;lot 0 9 9 0;order 0 0 5 5;");
        Checks.due("would() of one with an open one", x.would(0, 0, 1, 1), -2);
        Checks.due("would() wrongly of one with an open one", x.would(0, 0, 0, 1), -1);
        Checks.due("would() for another good", x.would(0, 1, 1, 1), 0);
        Checks.due("would() of another customer", x.would(1, 0, 1, 1), 1);
        x.cancel(0);
        Checks.due("would() after cancel()", x.would(0, 0, 1, 1), 1);
    }

    /** -3 is not told of would(): with 40 ORDERS it still tells how much one more would have. */
    static void promise15With40Orders() {
        FreshAllotter x = ActEdgesTest.withOrders(40);
        x.comes(0, 20, 7, 0);
        Checks.due("asks()", x.asks(0, 0, 9, 9), -3);
        Checks.due("would()", x.would(0, 0, 9, 9), 7);
        Checks.due("orders", x.now(4), 40);
    }

    // ---- promise 16

    /** "(0: it has)" */
    static void promise16ZeroIfItHas() {
        FreshAllotter x = Checks.told("goods 1;customer 5;customer 0;lot 0 9 6 0;order 0 0 6 4;order 1 0 1 5;");
        Checks.due("slack(0)", x.slack(0), 0);
        Checks.due("slack(1): the lot is another's", x.slack(1), -2);
    }

    /** "By how many DAYS less LIFE": the least that is enough. */
    static void promise16TheLeastThatIsEnough() {
        FreshAllotter x = Checks.told("goods 1;customer 9;lot 0 12 2 0;lot 0 9 2 0;lot 0 6 2 0;order 0 0 2 4;");
        // The lots have 8, 5 and 2 days left on day 4.
        int[] want = {1, 1, 4, 4, 7, 7, -2};
        for (int sum = 1; sum <= 7; sum++) {
            x.cancel(sum - 1);
            x.asks(0, 0, sum, 4);
            Checks.due("slack of a sum of " + sum, x.slack(sum), want[sum - 1]);
        }
    }

    /** "less LIFE of a CUSTOMER (to 0 at least)" */
    static void promise16To0AtLeast() {
        FreshAllotter x = Checks.told("goods 2;customer 99;customer 0;lot 0 4 2 0;lot 1 3 2 0;order 0 0 2 4;order 0 1 2 4;order 1 1 1 4;");
        Checks.due("slack by all of its life", x.slack(0), 99);
        Checks.due("slack of a lot that dies ahead of the day", x.slack(1), -2);
        Checks.due("slack with no life", x.slack(2), -2);
    }

    /** "-2: by none": less LIFE does not help against a HOLD, a LATEST, too small LOTS. */
    static void promise16ByNone() {
        FreshAllotter x = Checks.told("goods 1;customer 5;lot 0 9 6 5;order 0 0 6 4;");
        Checks.due("slack with a lot held", x.slack(0), -2);
        x.hold(0, 4);
        Checks.due("slack with a lot held till the day", x.slack(0), 0);
        x.cancel(0);
        x.asks(0, 0, 7, 4);
        Checks.due("slack of more than there is", x.slack(1), -2);
        FreshAllotter y = Checks.told("goods 1;customer 5;lot 0 9 6 0;order 0 0 6 0;");
        y.reserve(0);
        y.deliver(0);
        y.comes(0, 8, 6, 0);
        y.asks(0, 0, 1, 5);
        Checks.due("slack with older goods than last time", y.slack(1), -2);
        y.comes(0, 9, 6, 0);
        Checks.due("slack with goods as old as last time", y.slack(1), 1);
    }

    /** "an OPEN ORDER would have all of its SUM by the PLAN": ORDERS ahead of it in TURN keep theirs. */
    static void promise16OrdersAheadKeepTheirs() {
        FreshAllotter x = Checks.told("goods 1;customer 0;customer 4;lot 0 9 3 0;lot 0 6 5 0;order 0 0 5 3;order 1 0 4 5;");
        // Order 0 has all of the older lot, which has 1 day left on day 5; order 1 wants 1 more than the other has.
        Checks.due("slack(1)", x.slack(1), -2);
        x.cancel(0);
        Checks.due("slack(1) without the order ahead", x.slack(1), 3);
        x.undo();
        x.comes(0, 9, 1, 0);
        Checks.due("slack(1) with enough", x.slack(1), 0);
    }

    /** "NONE: no such one" */
    static void promise16NoneForNoSuchOne() {
        FreshAllotter x = Checks.told("goods 1;customer 5;lot 0 9 6 5;order 0 0 6 4;");
        for (int order : new int[] {1, -1, 40, LEAST, MOST}) {
            Checks.due("slack(" + order + ")", x.slack(order), -1);
        }
    }

    /** "NONE: .. it is not OPEN" */
    static void promise16NoneForOnesThatAreNotOpen() {
        FreshAllotter x = closed();
        for (int order = 0; order < 3; order++) {
            Checks.due("slack(" + order + ")", x.slack(order), -1);
        }
    }

    // ---- what the tests share

    /** Order 0 is delivered, 1 cancelled, 2 lapsed. */
    private static FreshAllotter closed() {
        FreshAllotter x = Checks.told(THREE_CUSTOMERS + "lot 0 9 9 0;order 0 0 2 0;order 1 0 2 0;order 2 0 2 0;");
        x.reserve(0);
        Checks.due("deliver(0)", x.deliver(0), 2);
        Checks.due("cancel(1)", x.cancel(1), 2);
        Checks.due("pass(1)", x.pass(1), 1);
        return x;
    }

    private static FreshAllotter onDay900(String text) {
        FreshAllotter x = Checks.told(text);
        for (int i = 0; i < 9; i++) {
            x.pass(99);
        }
        Checks.due("pass(9)", x.pass(9), 900);
        return x;
    }

    private static void dueWasteAndLeast(FreshAllotter x, int good, int day, int want) {
        Checks.due("waste(" + good + ", " + day + ")", x.waste(good, day), want);
        Checks.due("least(" + good + ", " + day + ")", x.least(good, day), want);
    }

    /** The plan, a text a lot: how much of it would be reserved for each order. */
    private static void duePlan(FreshAllotter x, String... want) {
        int orders = x.now(4);
        int[] all = new int[orders];
        Checks.due("lots", x.now(3), want.length);
        for (int lot = 0; lot < want.length; lot++) {
            String[] row = want[lot].split(" ");
            for (int order = 0; order < orders; order++) {
                int part = Integer.parseInt(row[order]);
                all[order] += part;
                Checks.due("plan(" + lot + ", " + order + ")", x.plan(lot, order), part);
            }
        }
        for (int order = 0; order < orders; order++) {
            Checks.due("plan(NONE, " + order + ")", x.plan(-1, order), all[order]);
        }
    }
}
