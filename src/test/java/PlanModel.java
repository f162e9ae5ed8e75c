import java.util.ArrayDeque;
import java.util.Arrays;

/**
 * The plan of a good by the document's words and two ways other than the program's: by rings of cells that shift
 * what is reserved (any size), and by looking at all that could be reserved (small sizes only).
 */
final class PlanModel {
    private PlanModel() {
    }

    /** How much of each lot (by age) is for each order (by turn). */
    static int[][] byRings(int[] left, int[] sum, boolean[][] suits) {
        int lots = left.length;
        int orders = sum.length;
        // One row more for what orders miss, one column more for what is not reserved.
        int[][] x = new int[lots + 1][orders + 1];
        boolean[][] free = new boolean[lots + 1][orders + 1];
        for (boolean[] row : free) {
            Arrays.fill(row, true);
        }
        for (int i = 0; i < lots; i++) {
            x[i][orders] = left[i];
            for (int k = 0; k < orders; k++) {
                free[i][k] = suits[i][k];
            }
        }
        for (int k = 0; k < orders; k++) {
            x[lots][k] = sum[k];
        }
        for (int k = 0; k < orders; k++) {
            press(x, free, lots, k, -1);
        }
        for (int i = 0; i < lots; i++) {
            press(x, free, i, orders, -1);
        }
        for (int k = 0; k < orders; k++) {
            for (int i = 0; i < lots; i++) {
                if (suits[i][k]) {
                    press(x, free, i, k, 1);
                }
            }
        }
        int[][] plan = new int[lots][];
        for (int i = 0; i < lots; i++) {
            plan[i] = Arrays.copyOf(x[i], orders);
        }
        return plan;
    }

    /** Makes a cell as small (step -1) or as great (step 1) as the sums of rows and columns allow, and keeps it so. */
    private static void press(int[][] x, boolean[][] free, int row, int column, int step) {
        free[row][column] = false;
        int rows = x.length;
        int columns = x[0].length;
        while (step > 0 || x[row][column] > 0) {
            // Nodes: rows, then columns. From a row to a column a cell grows, from a column to a row one shrinks.
            int from = step < 0 ? row : rows + column;
            int to = step < 0 ? rows + column : row;
            int[] before = new int[rows + columns];
            Arrays.fill(before, -1);
            before[from] = from;
            ArrayDeque<Integer> queue = new ArrayDeque<>();
            queue.add(from);
            while (!queue.isEmpty() && before[to] < 0) {
                int node = queue.remove();
                for (int next = 0; next < rows + columns; next++) {
                    boolean goes = node < rows && next >= rows && free[node][next - rows]
                            || node >= rows && next < rows && free[next][node - rows] && x[next][node - rows] > 0;
                    if (goes && before[next] < 0) {
                        before[next] = node;
                        queue.add(next);
                    }
                }
            }
            if (before[to] < 0) {
                return;
            }
            for (int node = to; node != from; node = before[node]) {
                if (before[node] < rows) {
                    x[before[node]][node - rows]++;
                } else {
                    x[node][before[node] - rows]--;
                }
            }
            x[row][column] += step;
        }
    }

    static int[][] byAll(int[] left, int[] sum, boolean[][] suits) {
        int[][] x = new int[left.length][sum.length];
        int[][] best = new int[left.length][sum.length];
        look(0, left.clone(), sum.clone(), suits, x, best);
        return best;
    }

    private static void look(int cell, int[] left, int[] sum, boolean[][] suits, int[][] x, int[][] best) {
        int orders = sum.length;
        if (cell == left.length * orders) {
            if (Arrays.compare(worth(x, orders), worth(best, orders)) > 0) {
                for (int i = 0; i < x.length; i++) {
                    best[i] = x[i].clone();
                }
            }
            return;
        }
        int i = cell / orders;
        int k = cell % orders;
        int most = suits[i][k] ? Math.min(left[i], sum[k]) : 0;
        for (int n = 0; n <= most; n++) {
            x[i][k] = n;
            left[i] -= n;
            sum[k] -= n;
            look(cell + 1, left, sum, suits, x, best);
            left[i] += n;
            sum[k] += n;
        }
        x[i][k] = 0;
    }

    /** What the document compares, one after the other. */
    private static int[] worth(int[][] x, int orders) {
        int lots = x.length;
        int[] worth = new int[orders + lots + orders * lots];
        for (int i = 0; i < lots; i++) {
            for (int k = 0; k < orders; k++) {
                worth[k] += x[i][k];
                worth[orders + i] += x[i][k];
                worth[orders + lots + k * lots + i] = x[i][k];
            }
        }
        return worth;
    }
}
