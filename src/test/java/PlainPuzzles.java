import java.util.ArrayList;
import java.util.List;

/** The document told once more, with lists and recursion where StatePuzzles has rows and closed forms. */
final class PlainPuzzles {
    private static final int[] TRIES_FOR_HEAVIER = {0, 1, 1, 2, 2, 2, 2, 2, 2, 3, 3, 3, 3};
    private static final int[] TRIES_FOR_ODD = {-1, -1, 2, 3, 3, 3, 3, 3, 3, 3, 3, 3, 4};

    private record Jug(int size, int now, int goal) {
    }

    private final List<Jug> jugs = new ArrayList<>();
    private String text = "";
    private List<LeastRow.Step> found = List.of();
    private int pegs = 3;
    private int discs;

    int jug(int size, int now) {
        found = List.of();
        if (jugs.size() == 4 || !isWithin(size, 1, 9) || !isWithin(now, 0, size)) {
            return -1;
        }
        jugs.add(new Jug(size, now, -1));
        return jugs.size() - 1;
    }

    boolean goal(int jug, int v) {
        found = List.of();
        if (!isWithin(jug, 0, jugs.size() - 1) || !isWithin(v, -1, jugs.get(jug).size())) {
            return false;
        }
        jugs.set(jug, new Jug(jugs.get(jug).size(), jugs.get(jug).now(), v));
        return true;
    }

    int jugs() {
        int[] sizes = jugs.stream().mapToInt(Jug::size).toArray();
        int[] goals = jugs.stream().mapToInt(Jug::goal).toArray();
        int[] levels = jugs.stream().mapToInt(Jug::now).toArray();
        return find(new JugRules(sizes, goals), JugRules.packed(levels));
    }

    boolean unit(int u) {
        if (!isWithin(u, 0, 255) || text.length() == 100) {
            return false;
        }
        text += (char) u;
        return true;
    }

    int crossing() {
        String read = text;
        text = "";
        found = List.of();
        for (int place = 0; place < read.length(); place++) {
            if (!mayStand(read.charAt(place), read.substring(0, place))) {
                return -2 - place;
            }
        }
        return isWhole(read) ? find(rulesOf(read), 0) : -2 - read.length();
    }

    int step(int k, boolean second) {
        if (!isWithin(k, 0, found.size() - 1)) {
            return -2;
        }
        return second ? found.get(k).second() : found.get(k).first();
    }

    int weigh(int n, int kind) {
        if (!isWithin(n, 1, 13) || !isWithin(kind, 0, 1)) {
            return -2;
        }
        return (kind == 0 ? TRIES_FOR_HEAVIER : TRIES_FOR_ODD)[n - 1];
    }

    long tower(int newPegs, int newDiscs) {
        if (!isWithin(newPegs, 3, 4) || !isWithin(newDiscs, 0, 40)) {
            return -1;
        }
        pegs = newPegs;
        discs = newDiscs;
        return TowerMoves.count(pegs, discs);
    }

    int towerMove(long k, int what) {
        if (k < 0 || k >= TowerMoves.count(pegs, discs) || !isWithin(what, 0, 2)) {
            return -1;
        }
        return TowerMoves.move(pegs, discs, k)[what];
    }

    long rings(int n) {
        return isWithin(n, 0, 60) ? ringSteps(n) : -1;
    }

    long ring(int n, long steps) {
        return !isWithin(n, 0, 60) || steps < 0 || steps > ringSteps(n) ? -1 : ringsBehind(n, steps);
    }

    private static boolean isWithin(int number, int least, int most) {
        return number >= least && number <= most;
    }

    private int find(LeastRow.Rules rules, int start) {
        List<LeastRow.Step> row = LeastRow.find(rules, start);
        found = row == null ? List.of() : row;
        return row == null ? -1 : row.size();
    }

    /** Whether a byte may stand behind the bytes before it, all of which may stand where they are. */
    private static boolean mayStand(char c, String before) {
        int blank = before.lastIndexOf(' ');
        if (blank == -1) {
            return c == ' ' ? !before.isEmpty() : c >= 'a' && c <= 'h' && before.indexOf(c) == -1;
        }
        String things = before.substring(0, before.indexOf(' '));
        String group = before.substring(blank + 1);
        boolean isThing = things.indexOf(c) != -1;
        if (group.isEmpty()) {
            return isThing || c >= '1' && c <= '3';
        }
        if (group.length() == 1) {
            return isThing && !isWhole(before) && c != group.charAt(0);
        }
        return c == ' ';
    }

    private static boolean isWhole(String text) {
        return text.matches("(?s).* [123]");
    }

    private static RiverRules rulesOf(String whole) {
        String[] groups = whole.split(" ");
        boolean[][] apart = new boolean[groups[0].length()][groups[0].length()];
        for (int i = 1; i < groups.length - 1; i++) {
            apart[groups[0].indexOf(groups[i].charAt(0))][groups[0].indexOf(groups[i].charAt(1))] = true;
        }
        return new RiverRules(apart, groups[groups.length - 1].charAt(0) - '0');
    }

    /** To take ring n - 1 off, those below the one before it come off and then on again; then one ring less is left. */
    private static long ringSteps(int n) {
        long[] steps = new long[Math.max(n + 1, 2)];
        steps[1] = 1;
        for (int i = 2; i <= n; i++) {
            steps[i] = 2 * steps[i - 2] + 1 + steps[i - 1];
        }
        return steps[n];
    }

    private static long ringsBehind(int n, long steps) {
        if (n < 2) {
            return n - steps;
        }
        long below = ringSteps(n - 2);
        if (steps <= below) {
            return (3L << n - 2) + ringsBehind(n - 2, steps);
        }
        if (steps <= 2 * below + 1) {
            return (1L << n - 2) + ringsBehind(n - 2, 2 * below + 1 - steps);
        }
        return ringsBehind(n - 1, steps - 2 * below - 1);
    }
}
