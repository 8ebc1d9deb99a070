import java.util.HashMap;
import java.util.Map;

/** Promise 8, beside a search through all weighings. */
public final class WeighTest {
    private static final Checks CHECKS = new Checks();
    private static final int MOST_TRIES = 5;
    private static final Map<String, Boolean> KNOWN = new HashMap<>();

    public static void main(String[] args) {
        for (int n = 1; n <= 13; n++) {
            CHECKS.due("weigh(" + n + ", 0)", new StatePuzzles().weigh(n, 0), tries(new int[] {0, n, 0, 0}));
            CHECKS.due("weigh(" + n + ", 1)", new StatePuzzles().weigh(n, 1), tries(new int[] {n, 0, 0, 0}));
        }
        int[] wrongCoins = {0, -1, 14, 100, Integer.MAX_VALUE, Integer.MIN_VALUE};
        for (int n : wrongCoins) {
            CHECKS.due("weigh(" + n + ", 0)", new StatePuzzles().weigh(n, 0), -2);
            CHECKS.due("weigh(" + n + ", 1)", new StatePuzzles().weigh(n, 1), -2);
        }
        int[] wrongKinds = {-1, 2, 3, Integer.MAX_VALUE, Integer.MIN_VALUE};
        for (int kind : wrongKinds) {
            CHECKS.due("weigh(1, " + kind + ")", new StatePuzzles().weigh(1, kind), -2);
            CHECKS.due("weigh(13, " + kind + ")", new StatePuzzles().weigh(13, kind), -2);
        }
        CHECKS.end();
    }

    private static int tries(int[] coins) {
        for (int tries = 0; tries <= MOST_TRIES; tries++) {
            if (isEnough(coins, tries)) {
                return tries;
            }
        }
        return -1;
    }

    /** Coins: may be either, may be heavier, may be lighter, are good. */
    private static boolean isEnough(int[] coins, int tries) {
        if (2 * coins[0] + coins[1] + coins[2] <= 1) {
            return true;
        }
        if (tries == 0) {
            return false;
        }
        String key = coins[0] + " " + coins[1] + " " + coins[2] + " " + coins[3] + " " + tries;
        Boolean known = KNOWN.get(key);
        if (known == null) {
            known = anyWeighingDoes(coins, tries, 0, new int[4], new int[4]);
            KNOWN.put(key, known);
        }
        return known;
    }

    private static boolean anyWeighingDoes(int[] coins, int tries, int sort, int[] left, int[] right) {
        if (sort == 4) {
            int balance = left[0] + left[1] + left[2] + left[3] - right[0] - right[1] - right[2] - right[3];
            return balance == 0 && isEnough(balanced(coins, left, right), tries - 1)
                && isEnough(heavier(coins, left, right), tries - 1) && isEnough(heavier(coins, right, left), tries - 1);
        }
        for (int a = 0; a <= coins[sort]; a++) {
            for (int b = 0; a + b <= coins[sort]; b++) {
                left[sort] = a;
                right[sort] = b;
                if (anyWeighingDoes(coins, tries, sort + 1, left, right)) {
                    return true;
                }
            }
        }
        left[sort] = 0;
        right[sort] = 0;
        return false;
    }

    private static int[] balanced(int[] coins, int[] left, int[] right) {
        int[] rest = new int[4];
        for (int sort = 0; sort < 3; sort++) {
            rest[sort] = coins[sort] - left[sort] - right[sort];
        }
        return withGood(rest, coins);
    }

    private static int[] heavier(int[] coins, int[] heavy, int[] light) {
        return withGood(new int[] {0, heavy[0] + heavy[1], light[0] + light[2], 0}, coins);
    }

    private static int[] withGood(int[] rest, int[] coins) {
        rest[3] = coins[0] + coins[1] + coins[2] + coins[3] - rest[0] - rest[1] - rest[2];
        return rest;
    }
}
