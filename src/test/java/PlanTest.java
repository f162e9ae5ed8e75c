import java.util.Arrays;
import java.util.Random;

/** Promise 12 and the terms of the plan: plans by chance (of a fixed seed), compared with those of the plan's models. */
public final class PlanTest {
    public static void main(String[] args) {
        plansAsAllThatCouldBe();
        plansWithManyLots();
        Checks.finish();
    }

    /** Small plans by chance, against all that could be reserved; both models against one another too. */
    private static void plansAsAllThatCouldBe() {
        Random random = new Random(5);
        for (int run = 0; run < 4000; run++) {
            int lots = 1 + random.nextInt(3);
            int orders = 1 + random.nextInt(3);
            int[] left = random.ints(lots, 1, 4).toArray();
            int[] sum = random.ints(orders, 1, 5).toArray();
            duePlanByChance(random, left, sum, true);
        }
    }

    private static void plansWithManyLots() {
        Random random = new Random(6);
        for (int run = 0; run < 1000; run++) {
            int lots = 6 + random.nextInt(19);
            int orders = 3 + random.nextInt(4);
            int[] left = random.ints(lots, 1, 1 + 1 + random.nextInt(60)).toArray();
            int[] sum = random.ints(orders, 1, 100).toArray();
            duePlanByChance(random, left, sum, false);
        }
    }

    /** Lots with expiries 10, 11 and so on, orders of the days 0, 1 and so on, so that both stand as they go. */
    private static void duePlanByChance(Random random, int[] left, int[] sum, boolean byAll) {
        FreshAllotter x = new FreshAllotter();
        StringBuilder text = new StringBuilder("goods 1;");
        int[] life = random.ints(sum.length, 0, 10 + left.length).toArray();
        for (int n : life) {
            text.append("customer ").append(n).append(";");
        }
        Checks.tell(x, text.toString());
        boolean[][] suits = new boolean[left.length][sum.length];
        for (int i = 0; i < left.length; i++) {
            int hold = random.nextInt(3) > 0 ? 0 : random.nextInt(sum.length + 1);
            x.comes(0, 10 + i, left[i], hold);
            for (int k = 0; k < sum.length; k++) {
                suits[i][k] = 10 + i - k >= life[k] && hold <= k;
            }
        }
        for (int k = 0; k < sum.length; k++) {
            x.asks(k, 0, sum[k], k);
        }
        int[][] want = PlanModel.byRings(left, sum, suits);
        if (byAll) {
            Checks.due("both models agree", Arrays.deepEquals(want, PlanModel.byAll(left, sum, suits)), true);
        }
        duePlan(x, left.length, sum.length, want);
    }

    private static void duePlan(FreshAllotter x, int lots, int orders, int[][] want) {
        for (int order = 0; order < orders; order++) {
            int all = 0;
            for (int lot = 0; lot < lots; lot++) {
                all += want[lot][order];
                Checks.due("plan(" + lot + ", " + order + ")", x.plan(lot, order), want[lot][order]);
            }
            Checks.due("plan(NONE, " + order + ")", x.plan(-1, order), all);
        }
    }
}
