import java.util.ArrayDeque;
import java.util.Arrays;
import java.util.Queue;

/** Promises 11 and 12, beside a search for small numbers and each step by its rule for great ones. */
public final class RingsTest {
    private static final Checks CHECKS = new Checks();

    public static void main(String[] args) {
        for (int n = 0; n <= 12; n++) {
            compare(n);
        }
        for (int n = 13; n <= 60; n++) {
            checkGreat(n);
        }
        wrongNumbers();
        CHECKS.end();
    }

    /** From how many steps a state is from all off, the way goes down by one at each step. */
    private static void compare(int n) {
        int[] distances = distances(n);
        int all = (1 << n) - 1;
        StatePuzzles x = new StatePuzzles();
        CHECKS.due("rings(" + n + ")", x.rings(n), distances[all]);
        long state = all;
        for (int steps = 0; steps <= distances[all]; steps++) {
            long got = x.ring(n, steps);
            String name = "ring(" + n + ", " + steps + ")";
            CHECKS.holds(name + " is a state", got >= 0 && got <= all);
            if (got >= 0 && got <= all) {
                CHECKS.due(name + " is so far from the end", distances[(int) got], distances[all] - steps);
                CHECKS.holds(name + " is one step on", steps == 0 ? got == all : isStep(n, state, got));
                state = got;
            }
        }
        CHECKS.due("ring(" + n + ") behind the last", x.ring(n, distances[all] + 1), -1);
    }

    private static int[] distances(int n) {
        int[] distances = new int[1 << n];
        Arrays.fill(distances, -1);
        distances[0] = 0;
        Queue<Integer> open = new ArrayDeque<>();
        open.add(0);
        while (!open.isEmpty()) {
            int state = open.remove();
            for (int ring = 0; ring < n; ring++) {
                int next = state ^ 1 << ring;
                if (distances[next] == -1 && isStep(n, state, next)) {
                    distances[next] = distances[state] + 1;
                    open.add(next);
                }
            }
        }
        return distances;
    }

    /** Ring 0, or that which is next behind the least one that is on. */
    private static boolean isStep(int n, long one, long other) {
        for (int ring = 0; ring < n; ring++) {
            if ((one ^ other) == 1L << ring) {
                return ring == 0 || Long.numberOfTrailingZeros(one) == ring - 1;
            }
        }
        return false;
    }

    private static void checkGreat(int n) {
        StatePuzzles x = new StatePuzzles();
        long steps = x.rings(n);
        CHECKS.due("rings(" + n + ")", steps, 2 * x.rings(n - 1) + n % 2);
        CHECKS.due("ring(" + n + ", 0)", x.ring(n, 0), (1L << n) - 1);
        CHECKS.due("ring(" + n + ", all)", x.ring(n, steps), 0);
        CHECKS.due("ring(" + n + ") behind the last", x.ring(n, steps + 1), -1);
        CHECKS.due("ring(" + n + ", -1)", x.ring(n, -1), -1);
        long[] places = {0, steps / 2, steps / 3, steps / 7 * 5, steps - 50};
        for (long place : places) {
            for (long k = place; k < place + 50; k++) {
                CHECKS.holds("ring(" + n + ", " + k + ") and the next are a step apart",
                    isStep(n, x.ring(n, k), x.ring(n, k + 1)));
            }
        }
    }

    private static void wrongNumbers() {
        StatePuzzles x = new StatePuzzles();
        int[] wrong = {-1, 61, 62, 63, 64, 100, Integer.MAX_VALUE, Integer.MIN_VALUE};
        for (int n : wrong) {
            CHECKS.due("rings(" + n + ")", x.rings(n), -1);
            CHECKS.due("ring(" + n + ", 0)", x.ring(n, 0), -1);
        }
        CHECKS.due("ring(0, 1)", x.ring(0, 1), -1);
        CHECKS.due("ring(60, the greatest)", x.ring(60, Long.MAX_VALUE), -1);
        CHECKS.due("ring(60, the least)", x.ring(60, Long.MIN_VALUE), -1);
        CHECKS.due("rings(60)", x.rings(60), 768614336404564650L);
    }
}
