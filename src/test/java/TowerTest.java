import java.util.ArrayList;
import java.util.List;

/** Promises 9 and 10, beside the moves as the document tells them, each done on real pegs. */
public final class TowerTest {
    private static final Checks CHECKS = new Checks();

    public static void main(String[] args) {
        for (int discs = 0; discs <= 14; discs++) {
            compare(3, discs);
        }
        for (int discs = 0; discs <= 40; discs++) {
            compare(4, discs);
        }
        longTowersOfThreePegs();
        wrongTowersDoNothing();
        wrongMovesAreNotTold();
        CHECKS.end();
    }

    private record Move(int disc, int from, int to) {
    }

    private static void compare(int pegs, int discs) {
        StatePuzzles x = new StatePuzzles();
        List<Move> moves = new ArrayList<>();
        if (pegs == 3) {
            byThree(moves, 0, discs, 0, 1, 2);
        } else {
            byFour(moves, discs, 0, 1);
        }
        String name = "tower(" + pegs + ", " + discs + ")";
        CHECKS.due(name, x.tower(pegs, discs), moves.size());
        int[] pegOf = new int[discs];
        for (int k = 0; k < moves.size(); k++) {
            int disc = x.towerMove(k, 0);
            int from = x.towerMove(k, 1);
            int to = x.towerMove(k, 2);
            CHECKS.due(name + " disc of " + k, disc, moves.get(k).disc());
            CHECKS.due(name + " from of " + k, from, moves.get(k).from());
            CHECKS.due(name + " to of " + k, to, moves.get(k).to());
            move(name + " move " + k, pegOf, new Move(disc, from, to), pegs);
        }
        for (int disc = 0; disc < discs; disc++) {
            CHECKS.due(name + " last peg of disc " + disc, pegOf[disc], 1);
        }
        for (int what = 0; what < 3; what++) {
            CHECKS.due(name + " behind the last", x.towerMove(moves.size(), what), -1);
            CHECKS.due(name + " before the first", x.towerMove(-1, what), -1);
        }
    }

    private static void move(String name, int[] pegOf, Move move, int pegs) {
        boolean known = move.disc() >= 0 && move.disc() < pegOf.length && move.to() >= 0 && move.to() < pegs;
        CHECKS.holds(name + " has a disc and a peg", known);
        if (known) {
            CHECKS.due(name + " from", pegOf[move.disc()], move.from());
            for (int lesser = 0; lesser < move.disc(); lesser++) {
                CHECKS.holds(name + " is free", pegOf[lesser] != move.from() && pegOf[lesser] != move.to());
            }
            pegOf[move.disc()] = move.to();
        }
    }

    private static void byThree(List<Move> moves, int low, int high, int from, int to, int third) {
        if (high > low) {
            byThree(moves, low, high - 1, from, third, to);
            moves.add(new Move(high - 1, from, to));
            byThree(moves, low, high - 1, third, to, from);
        }
    }

    private static void byFour(List<Move> moves, int n, int from, int to) {
        if (n == 0) {
            return;
        }
        List<Integer> free = new ArrayList<>(List.of(0, 1, 2, 3));
        free.remove(Integer.valueOf(from));
        free.remove(Integer.valueOf(to));
        int k = TowerMoves.bestPart(n);
        byFour(moves, k, from, free.get(0));
        byThree(moves, k, n, from, to, free.get(1));
        byFour(moves, k, free.get(0), to);
    }

    private static void longTowersOfThreePegs() {
        for (int discs = 15; discs <= 40; discs++) {
            StatePuzzles x = new StatePuzzles();
            long moves = (1L << discs) - 1;
            String name = "tower(3, " + discs + ")";
            CHECKS.due(name, x.tower(3, discs), moves);
            for (int i = 0; i < 200; i++) {
                long k = i < 100 ? i : moves - 200 + i;
                checkLong(x, name, k, discs);
            }
            checkLong(x, name, moves / 2, discs);
            checkLong(x, name, moves / 3, discs);
            checkLong(x, name, moves / 7 * 5, discs);
            CHECKS.due(name + " behind the last", x.towerMove(moves, 0), -1);
        }
    }

    /** Disc d moves at each k whose k + 1 is an odd multiple of 2 to the d; every second disc goes the other way round. */
    private static void checkLong(StatePuzzles x, String name, long k, int discs) {
        int disc = Long.numberOfTrailingZeros(k + 1);
        long turn = (k + 1) >> (disc + 1);
        int way = (discs - 1 - disc) % 2 == 0 ? 1 : 2;
        int from = (int) (turn % 3 * way % 3);
        CHECKS.due(name + " disc of " + k, x.towerMove(k, 0), disc);
        CHECKS.due(name + " from of " + k, x.towerMove(k, 1), from);
        CHECKS.due(name + " to of " + k, x.towerMove(k, 2), (from + way) % 3);
    }

    private static void wrongTowersDoNothing() {
        StatePuzzles x = new StatePuzzles();
        CHECKS.due("tower(4, 3)", x.tower(4, 3), 5);
        int[][] wrong = {{2, 3}, {5, 3}, {3, -1}, {4, -1}, {3, 41}, {4, 41}, {0, 0}, {-3, 3},
            {Integer.MAX_VALUE, 3}, {Integer.MIN_VALUE, 3}, {3, Integer.MAX_VALUE}, {4, Integer.MIN_VALUE}};
        for (int[] pair : wrong) {
            CHECKS.due("tower(" + pair[0] + ", " + pair[1] + ")", x.tower(pair[0], pair[1]), -1);
            CHECKS.due("the last move behind it", x.towerMove(4, 2), 1);
            CHECKS.due("no move behind that", x.towerMove(5, 2), -1);
        }
        CHECKS.due("tower(3, 3)", x.tower(3, 3), 7);
        CHECKS.due("a move that four pegs had not", x.towerMove(5, 0), 1);
        CHECKS.due("tower(3, 0)", x.tower(3, 0), 0);
        CHECKS.due("no move of no discs", x.towerMove(0, 0), -1);
    }

    private static void wrongMovesAreNotTold() {
        StatePuzzles x = new StatePuzzles();
        x.tower(4, 40);
        int[] wrongWhat = {-1, 3, 4, Integer.MAX_VALUE, Integer.MIN_VALUE};
        for (int what : wrongWhat) {
            CHECKS.due("towerMove(0, " + what + ")", x.towerMove(0, what), -1);
        }
        long[] wrongMove = {-1, 2817, 1L << 32, Long.MAX_VALUE, Long.MIN_VALUE};
        for (long k : wrongMove) {
            CHECKS.due("towerMove(" + k + ", 0)", x.towerMove(k, 0), -1);
        }
    }
}
