import java.util.ArrayList;
import java.util.List;

/** The moves of a tower by recursion, as the document tells them: disc, peg from, peg to. */
final class TowerMoves {
    private TowerMoves() {
    }

    static long count(int pegs, int discs) {
        return pegs == 3 ? byThree(discs) : byFour(discs);
    }

    static int[] move(int pegs, int discs, long k) {
        return pegs == 3 ? moveOfThree(k, 0, discs, new int[] {0, 1, 2}) : moveOfFour(k, discs, 0, 1);
    }

    private static long byThree(int discs) {
        return (1L << discs) - 1;
    }

    /** The known numbers: 1, then twice 2, three times 4, four times 8 more for each disc and so on. */
    private static long byFour(int discs) {
        long moves = 0;
        int added = 0;
        for (int group = 0; added < discs; group++) {
            for (int i = 0; i <= group && added < discs; i++) {
                moves += 1L << group;
                added++;
            }
        }
        return moves;
    }

    static int bestPart(int discs) {
        int best = 0;
        for (int k = 0; k < discs; k++) {
            if (withPart(discs, k) < withPart(discs, best)) {
                best = k;
            }
        }
        return best;
    }

    private static long withPart(int discs, int k) {
        return 2 * byFour(k) + byThree(discs - k);
    }

    /** Pegs: from, to, third. */
    private static int[] moveOfThree(long k, int low, int high, int[] pegs) {
        long before = byThree(high - 1 - low);
        if (k < before) {
            return moveOfThree(k, low, high - 1, new int[] {pegs[0], pegs[2], pegs[1]});
        }
        if (k > before) {
            return moveOfThree(k - before - 1, low, high - 1, new int[] {pegs[2], pegs[1], pegs[0]});
        }
        return new int[] {high - 1, pegs[0], pegs[1]};
    }

    private static int[] moveOfFour(long k, int discs, int from, int to) {
        List<Integer> free = new ArrayList<>(List.of(0, 1, 2, 3));
        free.removeAll(List.of(from, to));
        int part = bestPart(discs);
        long before = byFour(part);
        long middle = byThree(discs - part);
        if (k < before) {
            return moveOfFour(k, part, from, free.get(0));
        }
        if (k < before + middle) {
            return moveOfThree(k - before, part, discs, new int[] {from, to, free.get(1)});
        }
        return moveOfFour(k - before - middle, part, free.get(0), to);
    }
}
