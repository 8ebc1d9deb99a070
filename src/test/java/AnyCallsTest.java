import java.util.Random;

/** Runs of 512 calls in any order, with right and wrong arguments: each answer is the one that PlainPuzzles gives. */
public final class AnyCallsTest {
    private static final int RUNS = 200;
    private static final int CALLS = 512;
    private static final int[] EDGES = {Integer.MIN_VALUE, -257, -256, -2, -1, 0, 1, 2, 3, 4, 5, 9, 10, 13, 14, 39, 40, 41,
        59, 60, 61, 64, 99, 100, 255, 256, 257, 1 << 16, Integer.MAX_VALUE};
    private static final String LETTERS = "abcdefgh";

    private final Checks checks;
    private final Random random;
    private final String name;
    private final StatePuzzles x = new StatePuzzles();
    private final PlainPuzzles plain = new PlainPuzzles();
    private String coming = "";

    private AnyCallsTest(Checks checks, int seed) {
        this.checks = checks;
        random = new Random(seed);
        name = "run " + seed + ": ";
    }

    public static void main(String[] args) {
        Checks checks = new Checks();
        for (int seed = 0; seed < RUNS; seed++) {
            AnyCallsTest run = new AnyCallsTest(checks, seed);
            for (int i = 0; i < CALLS; i++) {
                run.call();
            }
        }
        checks.end();
    }

    private void call() {
        int kind = random.nextInt(30);
        if (kind < 2) {
            jug();
        } else if (kind < 5) {
            goal();
        } else if (kind < 7) {
            checks.due(name + "jugs()", x.jugs(), plain.jugs());
        } else if (kind < 12) {
            step();
        } else if (kind < 18) {
            numbers(kind);
        } else if (kind == 18 && random.nextInt(4) == 0) {
            unit(number(0, 255));
        } else if (!coming.isEmpty() && kind < 29) {
            unit(coming.charAt(0));
            coming = coming.substring(1);
        } else {
            crossing();
        }
    }

    private int number(int least, int most) {
        return random.nextInt(4) == 0 ? EDGES[random.nextInt(EDGES.length)] : least + random.nextInt(most - least + 1);
    }

    private long longNumber(long end) {
        int kind = random.nextInt(5);
        long[] about = {random.nextLong(), number(0, 50), end - random.nextInt(3) + 1, 1L << random.nextInt(64)};
        return kind < about.length ? about[kind] : Math.floorMod(random.nextLong(), Math.max(end, 1));
    }

    private void jug() {
        int size = number(1, 4);
        int now = number(0, 4);
        checks.due(name + "jug(" + size + ", " + now + ")", x.jug(size, now), plain.jug(size, now));
    }

    private void goal() {
        int jug = number(0, 3);
        int v = number(-1, 4);
        checks.due(name + "goal(" + jug + ", " + v + ")", x.goal(jug, v), plain.goal(jug, v));
    }

    private void step() {
        int k = number(-1, 12);
        boolean second = random.nextBoolean();
        checks.due(name + "step(" + k + ", " + second + ")", x.step(k, second), plain.step(k, second));
    }

    private void unit(int u) {
        checks.due(name + "unit(" + u + ")", x.unit(u), plain.unit(u));
    }

    private void crossing() {
        checks.due(name + "crossing()", x.crossing(), plain.crossing());
        coming = random.nextInt(12) == 0 ? nextText(100) : nextText(random.nextInt(16));
    }

    /** Mostly right; else with one byte more, less or another one. */
    private String nextText(int length) {
        StringBuilder text = new StringBuilder();
        for (int i = 0, things = 1 + random.nextInt(random.nextInt(3) == 0 ? 8 : 4); i < things; i++) {
            char letter = LETTERS.charAt(random.nextInt(LETTERS.length()));
            if (text.indexOf(String.valueOf(letter)) == -1) {
                text.append(letter);
            }
        }
        int things = text.length();
        while (things > 1 && text.length() + 3 < length) {
            int one = random.nextInt(things);
            int other = (one + 1 + random.nextInt(things - 1)) % things;
            text.append(' ').append(text.charAt(one)).append(text.charAt(other));
        }
        text.append(' ').append(1 + random.nextInt(3));
        return random.nextInt(3) == 0 ? spoilt(text) : text.toString();
    }

    private String spoilt(StringBuilder text) {
        int at = random.nextInt(text.length());
        char other = "abh 0134i`\u0000\u00ff".charAt(random.nextInt(12));
        switch (random.nextInt(3)) {
            case 0: return text.insert(at, other).toString();
            case 1: return text.deleteCharAt(at).toString();
            default: text.setCharAt(at, other);
                return text.toString();
        }
    }

    private void numbers(int kind) {
        int n = number(0, 60);
        if (kind == 12) {
            int coins = number(1, 13);
            int sort = number(0, 1);
            checks.due(name + "weigh(" + coins + ", " + sort + ")", x.weigh(coins, sort), plain.weigh(coins, sort));
        } else if (kind == 13) {
            int pegs = number(3, 4);
            int discs = number(0, 40);
            checks.due(name + "tower(" + pegs + ", " + discs + ")", x.tower(pegs, discs), plain.tower(pegs, discs));
        } else if (kind < 16) {
            long k = longNumber(random.nextBoolean() ? 40 : 1L << 40);
            int what = number(0, 2);
            checks.due(name + "towerMove(" + k + ", " + what + ")", x.towerMove(k, what), plain.towerMove(k, what));
        } else if (kind == 16) {
            checks.due(name + "rings(" + n + ")", x.rings(n), plain.rings(n));
        } else {
            long steps = longNumber(plain.rings(n));
            checks.due(name + "ring(" + n + ", " + steps + ")", x.ring(n, steps), plain.ring(n, steps));
        }
    }
}
