import java.util.ArrayList;
import java.util.List;

/** Jugs, their goals and steps as the document tells them; a state has four bits for each jug. */
record JugRules(int[] sizes, int[] goals) implements LeastRow.Rules {
    static int packed(int[] levels) {
        int state = 0;
        for (int i = 0; i < levels.length; i++) {
            state |= levels[i] << 4 * i;
        }
        return state;
    }

    private int[] levels(int state) {
        int[] levels = new int[sizes.length];
        for (int i = 0; i < levels.length; i++) {
            levels[i] = state >> 4 * i & 15;
        }
        return levels;
    }

    @Override
    public boolean isEnd(int state) {
        int[] levels = levels(state);
        for (int i = 0; i < levels.length; i++) {
            if (goals[i] != -1 && goals[i] != levels[i]) {
                return false;
            }
        }
        return true;
    }

    @Override
    public List<LeastRow.Step> steps(int state) {
        List<LeastRow.Step> steps = new ArrayList<>();
        for (int from = -1; from < sizes.length; from++) {
            for (int to = -1; to < sizes.length; to++) {
                if (from != to) {
                    steps.add(new LeastRow.Step(from, to, behind(state, from, to)));
                }
            }
        }
        return steps;
    }

    private int behind(int state, int from, int to) {
        int[] levels = levels(state);
        if (from == -1) {
            levels[to] = sizes[to];
        } else if (to == -1) {
            levels[from] = 0;
        } else {
            while (levels[from] > 0 && levels[to] < sizes[to]) {
                levels[from]--;
                levels[to]++;
            }
        }
        return packed(levels);
    }
}
