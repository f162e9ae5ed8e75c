import java.util.Arrays;
import java.util.Random;

/** Promises 12 plan, 13 waste, 14 least, 15 would, 16 slack. */
public final class PlanTest {
    public static void main(String[] args) {
        plansInTurn();
        plansOldestFirst();
        plansFirstOrderOldest();
        refusesPlans();
        plansAsAllThatCouldBe();
        plansWithManyLots();
        tellsWaste();
        tellsLeast();
        tellsWould();
        tellsSlack();
        Checks.finish();
    }

    private static void plansInTurn() {
        // By day: order 2, then 0 and 1 by number.
        FreshAllotter x = Checks.told("goods 1;customer 0;customer 0;customer 0;lot 0 9 20 0;"
                + "order 0 0 9 3;order 1 0 9 3;order 2 0 9 2;");
        duePlan(x, 1, 3, new int[][] {{9, 2, 9}});
        // The first has all that suits it, though nothing is left for the second.
        FreshAllotter y = Checks.told("goods 1;customer 0;customer 4;lot 0 9 5 0;lot 0 4 3 0;order 0 0 8 1;order 1 0 9 1;");
        duePlan(y, 2, 2, new int[][] {{5, 0}, {3, 0}});
        // The first leaves the younger lot, the only one that suits the second.
        FreshAllotter z = Checks.told("goods 1;customer 0;customer 4;lot 0 5 5 0;lot 0 9 5 0;order 0 0 5 1;order 1 0 10 5;");
        duePlan(z, 2, 2, new int[][] {{5, 0}, {0, 5}});
    }

    private static void plansOldestFirst() {
        // By expiry: lot 2, which suits the first order alone, lot 0, lot 1.
        FreshAllotter x = Checks.told("goods 1;customer 0;customer 0;lot 0 5 4 0;lot 0 9 9 0;lot 0 3 2 0;"
                + "order 0 0 5 1;order 1 0 5 4;");
        duePlan(x, 3, 2, new int[][] {{3, 1}, {0, 4}, {2, 0}});
        // Lots of like expiry go by number.
        FreshAllotter y = Checks.told("goods 1;customer 0;lot 0 5 4 0;lot 0 5 9 0;order 0 0 6 1;");
        duePlan(y, 2, 1, new int[][] {{4}, {2}});
        // The held lot suits the second order alone.
        FreshAllotter z = Checks.told("goods 1;customer 0;customer 0;lot 0 5 6 0;lot 0 7 6 3;order 0 0 6 2;order 1 0 6 3;");
        duePlan(z, 2, 2, new int[][] {{6, 0}, {0, 6}});
    }

    private static void plansFirstOrderOldest() {
        FreshAllotter x = Checks.told("goods 1;customer 0;customer 0;lot 0 5 4 0;lot 0 9 4 0;order 0 0 4 2;order 1 0 4 2;");
        duePlan(x, 2, 2, new int[][] {{4, 0}, {0, 4}});
        // The first in turn is order 1.
        FreshAllotter y = Checks.told("goods 1;customer 0;customer 0;lot 0 5 4 0;lot 0 9 4 0;order 0 0 4 3;order 1 0 4 2;");
        duePlan(y, 2, 2, new int[][] {{0, 4}, {4, 0}});
    }

    private static void refusesPlans() {
        FreshAllotter x = Checks.told("goods 2;customer 0;lot 0 5 4 0;lot 1 5 4 0;order 0 0 4 3;");
        Checks.due("plan(NONE, 0)", x.plan(-1, 0), 4);
        Checks.due("plan of a lot of another good", x.plan(1, 0), 0);
        Checks.due("plan(2, 0)", x.plan(2, 0), -1);
        Checks.due("plan(-2, 0)", x.plan(-2, 0), -1);
        Checks.due("plan(0, 1)", x.plan(0, 1), -1);
        Checks.due("plan(0, -1)", x.plan(0, -1), -1);
        Checks.due("plan(-1, -1)", x.plan(-1, -1), -1);
        Checks.due("plan(greatest, 0)", x.plan(Integer.MAX_VALUE, 0), -1);
        Checks.due("plan(0, least)", x.plan(0, Integer.MIN_VALUE), -1);
        x.cancel(0);
        Checks.due("plan of a cancelled one", x.plan(0, 0), -1);
        Checks.due("plan of a cancelled one", x.plan(-1, 0), -1);
    }

    /** Small plans by chance, against all that could be reserved; both models against one another too. */
    private static void plansAsAllThatCouldBe() {
        Random random = new Random(5);
        for (int run = 0; run < 4000; run++) {
            int lots = 1 + random.nextInt(3);
            int orders = 1 + random.nextInt(3);
            int[] left = random.ints(lots, 1, 4).toArray();
            int[] sum = random.ints(orders, 1, 5).toArray();
            duePlanByChance(random, left, sum, true);
        }
    }

    private static void plansWithManyLots() {
        Random random = new Random(6);
        for (int run = 0; run < 1000; run++) {
            int lots = 6 + random.nextInt(19);
            int orders = 3 + random.nextInt(4);
            int[] left = random.ints(lots, 1, 1 + 1 + random.nextInt(60)).toArray();
            int[] sum = random.ints(orders, 1, 100).toArray();
            duePlanByChance(random, left, sum, false);
        }
    }

    /** Lots with expiries 10, 11 and so on, orders of the days 0, 1 and so on, so that both stand as they go. */
    private static void duePlanByChance(Random random, int[] left, int[] sum, boolean byAll) {
        FreshAllotter x = new FreshAllotter();
        StringBuilder text = new StringBuilder("goods 1;");
        int[] life = random.ints(sum.length, 0, 10 + left.length).toArray();
        for (int n : life) {
            text.append("customer ").append(n).append(";");
        }
        Checks.tell(x, text.toString());
        boolean[][] suits = new boolean[left.length][sum.length];
        for (int i = 0; i < left.length; i++) {
            int hold = random.nextInt(3) > 0 ? 0 : random.nextInt(sum.length + 1);
            x.comes(0, 10 + i, left[i], hold);
            for (int k = 0; k < sum.length; k++) {
                suits[i][k] = 10 + i - k >= life[k] && hold <= k;
            }
        }
        for (int k = 0; k < sum.length; k++) {
            x.asks(k, 0, sum[k], k);
        }
        int[][] want = PlanModel.byRings(left, sum, suits);
        if (byAll) {
            Checks.due("both models agree", Arrays.deepEquals(want, PlanModel.byAll(left, sum, suits)), true);
        }
        duePlan(x, left.length, sum.length, want);
    }

    private static void tellsWaste() {
        FreshAllotter x = Checks.told("goods 2;customer 0;lot 0 5 9 0;lot 0 7 8 0;lot 1 5 50 0;order 0 0 4 3;");
        Checks.due("waste(0, 4)", x.waste(0, 4), 0);
        Checks.due("waste(0, 5)", x.waste(0, 5), 9);
        Checks.due("waste(0, 6)", x.waste(0, 6), 9);
        Checks.due("waste(0, 7)", x.waste(0, 7), 17);
        Checks.due("waste(0, 99)", x.waste(0, 99), 17);
        Checks.due("waste(1, 99)", x.waste(1, 99), 50);
        x.reserve(0);
        Checks.due("waste(0, 5) less reserved", x.waste(0, 5), 5);
        int[][] refused = {{2, 5}, {-1, 5}, {0, -1}, {0, 100}, {Integer.MIN_VALUE, 5}, {Integer.MAX_VALUE, 5},
            {0, Integer.MIN_VALUE}, {0, Integer.MAX_VALUE}};
        for (int[] n : refused) {
            Checks.due("waste" + Arrays.toString(n), x.waste(n[0], n[1]), -1);
            Checks.due("least" + Arrays.toString(n), x.least(n[0], n[1]), -1);
        }
        x.pass(6);
        Checks.due("waste of a day gone", x.waste(0, 5), -1);
        Checks.due("least of a day gone", x.least(0, 5), -1);
        Checks.due("what is written off is not told again", x.waste(0, 6), 0);
        Checks.due("waste(0, 105)", x.waste(0, 105), 8);
        Checks.due("waste(0, 106)", x.waste(0, 106), -1);
        Checks.due("least(0, 105)", x.least(0, 105), 8);
        Checks.due("least(0, 106)", x.least(0, 106), -1);
    }

    private static void tellsLeast() {
        FreshAllotter x = Checks.told("goods 2;customer 0;customer 0;lot 0 5 9 0;lot 0 7 8 0;lot 1 5 50 0;order 0 0 12 3;");
        Checks.due("least(0, 4)", x.least(0, 4), 0);
        Checks.due("least(0, 5)", x.least(0, 5), 0);
        Checks.due("least(0, 7)", x.least(0, 7), 5);
        Checks.due("least(1, 7)", x.least(1, 7), 50);
        x.reserve(0);
        x.asks(1, 0, 3, 6);
        Checks.due("waste(0, 7) by what is reserved", x.waste(0, 7), 5);
        Checks.due("least(0, 7) by the plan", x.least(0, 7), 2);
    }

    private static void tellsWould() {
        FreshAllotter x = Checks.told("goods 1;customer 0;customer 0;customer 3;lot 0 5 9 0;lot 0 7 8 0;order 0 0 12 3;");
        Checks.due("would(1, 0, 9, 4): behind", x.would(1, 0, 9, 4), 5);
        Checks.due("would(1, 0, 9, 3): of like day, the later number", x.would(1, 0, 9, 3), 5);
        Checks.due("would(1, 0, 9, 2): ahead", x.would(1, 0, 9, 2), 9);
        Checks.due("would(1, 0, 3, 4)", x.would(1, 0, 3, 4), 3);
        Checks.due("would(1, 0, 9, 8)", x.would(1, 0, 9, 8), 0);
        Checks.due("would(2, 0, 99, 4): wants life", x.would(2, 0, 99, 4), 5);
        Checks.due("would(2, 0, 99, 5)", x.would(2, 0, 99, 5), 0);
        Checks.due("would of one with an open one", x.would(0, 0, 9, 4), -2);
        Checks.due("would of one with an open one, wrongly", x.would(0, 0, 100, 4), -1);
        Checks.due("orders stay", x.now(4), 1);
        Checks.due("nothing to undo", x.now(10), 0);
        x.cancel(0);
        Checks.due("would after cancel()", x.would(0, 0, 18, 4), 17);
    }

    private static void tellsSlack() {
        FreshAllotter x = Checks.told("goods 1;customer 9;customer 0;customer 5;lot 0 12 6 0;lot 0 9 6 0;lot 0 4 6 0;lot 0 3 6 0;"
                + "order 0 0 6 4;order 1 0 2 3;order 2 0 25 4;");
        // Lot 0 has 8 days left on day 4.
        Checks.due("slack(0)", x.slack(0), 1);
        Checks.due("slack(1)", x.slack(1), 0);
        Checks.due("slack(2)", x.slack(2), -2);
        Checks.due("slack(3)", x.slack(3), -1);
        Checks.due("slack(-1)", x.slack(-1), -1);
        Checks.due("slack(least)", x.slack(Integer.MIN_VALUE), -1);
        Checks.due("slack(greatest)", x.slack(Integer.MAX_VALUE), -1);
        Checks.due("life stays", x.customer(0, -1), 9);
        x.cancel(0);
        Checks.due("slack of a cancelled one", x.slack(0), -1);
        x.asks(0, 0, 13, 4);
        Checks.due("slack down to no life", x.slack(3), -2);
        x.cancel(2);
        Checks.due("slack down to no life", x.slack(3), 9);
        x.hold(2, 5);
        Checks.due("slack with a lot held", x.slack(3), -2);
    }

    private static void duePlan(FreshAllotter x, int lots, int orders, int[][] want) {
        for (int order = 0; order < orders; order++) {
            int all = 0;
            for (int lot = 0; lot < lots; lot++) {
                all += want[lot][order];
                Checks.due("plan(" + lot + ", " + order + ")", x.plan(lot, order), want[lot][order]);
            }
            Checks.due("plan(NONE, " + order + ")", x.plan(-1, order), all);
        }
    }
}
