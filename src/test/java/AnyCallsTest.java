import java.util.Random;

/** Runs of 512 calls with right and wrong arguments: none throws, and the same calls give the same answers. */
public final class AnyCallsTest {
    private static final int RUNS = 300;
    private static final int CALLS = 512;
    private static final int[] EDGES = {Integer.MIN_VALUE, -2, -1, 0, 1, 2, 3, 4, 5, 9, 10, 13, 14, 40, 41, 60, 61,
        100, 255, 256, Integer.MAX_VALUE};
    private static final String UNITS = "abcdefgh  123";

    public static void main(String[] args) {
        Checks checks = new Checks();
        for (int seed = 0; seed < RUNS; seed++) {
            checks.due("the answers of run " + seed, answers(seed), answers(seed));
        }
        checks.end();
    }

    private static long answers(int seed) {
        Random random = new Random(seed);
        StatePuzzles x = new StatePuzzles();
        long sum = 0;
        for (int i = 0; i < CALLS; i++) {
            sum = sum * 31 + call(x, random);
        }
        return sum;
    }

    private static int number(Random random) {
        return random.nextInt(4) == 0 ? EDGES[random.nextInt(EDGES.length)] : random.nextInt(11) - 1;
    }

    private static long longNumber(Random random) {
        int kind = random.nextInt(4);
        return kind == 0 ? random.nextLong() : kind == 1 ? random.nextLong() >>> 24 : number(random);
    }

    private static long call(StatePuzzles x, Random random) {
        switch (random.nextInt(16)) {
            case 0: return x.jug(number(random), number(random));
            case 1: return x.goal(number(random), number(random)) ? 1 : 0;
            case 2: return x.jugs();
            case 3: return x.unit(number(random)) ? 1 : 0;
            case 4: return x.crossing();
            case 5: return x.step(number(random), random.nextBoolean());
            case 6: return x.weigh(number(random), number(random));
            case 7: return x.tower(3 + random.nextInt(2), number(random));
            case 8: return x.tower(number(random), number(random));
            case 9: return x.towerMove(longNumber(random), number(random));
            case 10: return x.towerMove(random.nextInt(100), random.nextInt(3));
            case 11: return x.rings(number(random));
            case 12: return x.ring(number(random), longNumber(random));
            default: return x.unit(UNITS.charAt(random.nextInt(UNITS.length()))) ? 1 : 0;
        }
    }
}
