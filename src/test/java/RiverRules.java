import java.util.ArrayList;
import java.util.List;

/** A crossing as the document tells it; a state is the far bank times two, and 1 when the boatman is there. */
record RiverRules(boolean[][] apart, int boat) implements LeastRow.Rules {
    @Override
    public boolean isEnd(int state) {
        return state >> 1 == (1 << apart.length) - 1;
    }

    @Override
    public List<LeastRow.Step> steps(int state) {
        List<LeastRow.Step> steps = new ArrayList<>();
        int far = state >> 1;
        boolean there = (state & 1) == 1;
        for (int taken = 0; taken < 1 << apart.length; taken++) {
            int farBehind = there ? far - taken : far + taken;
            boolean ofTheBank = (far & taken) == (there ? taken : 0);
            int left = there ? farBehind : (1 << apart.length) - 1 - farBehind;
            if (ofTheBank && size(taken) <= boat && isQuiet(left)) {
                steps.add(new LeastRow.Step(taken, farBehind, farBehind * 2 + (there ? 0 : 1)));
            }
        }
        return steps;
    }

    private int size(int set) {
        return set == 0 ? 0 : (set & 1) + size(set >> 1);
    }

    private boolean isQuiet(int set) {
        for (int one = 0; one < apart.length; one++) {
            for (int other = 0; other < apart.length; other++) {
                if (apart[one][other] && (set >> one & 1) == 1 && (set >> other & 1) == 1) {
                    return false;
                }
            }
        }
        return true;
    }
}
