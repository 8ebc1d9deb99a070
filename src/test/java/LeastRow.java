import java.util.ArrayList;
import java.util.HashMap;
import java.util.List;
import java.util.Map;

/**
 * The least shortest row of steps, found otherwise than in StatePuzzles: how far each state is from the end is made
 * less until nothing changes, and then from the start the least step that comes nearer is taken again and again.
 */
final class LeastRow {
    record Step(int first, int second, int next) {
    }

    interface Rules {
        boolean isEnd(int state);

        /** In their order. */
        List<Step> steps(int state);
    }

    private LeastRow() {
    }

    /** Null when there is none. */
    static List<Step> find(Rules rules, int start) {
        Map<Integer, List<Step>> all = reached(rules, start);
        Map<Integer, Integer> distances = distances(rules, all);
        if (!distances.containsKey(start)) {
            return null;
        }
        List<Step> row = new ArrayList<>();
        int state = start;
        while (distances.get(state) > 0) {
            Step step = nearer(all.get(state), distances, distances.get(state));
            row.add(step);
            state = step.next();
        }
        return row;
    }

    private static Step nearer(List<Step> steps, Map<Integer, Integer> distances, int distance) {
        for (Step step : steps) {
            Integer there = distances.get(step.next());
            if (there != null && there < distance) {
                return step;
            }
        }
        throw new IllegalStateException("no step comes nearer");
    }

    private static Map<Integer, List<Step>> reached(Rules rules, int start) {
        Map<Integer, List<Step>> all = new HashMap<>();
        List<Integer> open = new ArrayList<>();
        open.add(start);
        while (!open.isEmpty()) {
            int state = open.remove(open.size() - 1);
            if (!all.containsKey(state)) {
                List<Step> steps = rules.steps(state);
                all.put(state, steps);
                for (Step step : steps) {
                    open.add(step.next());
                }
            }
        }
        return all;
    }

    private static Map<Integer, Integer> distances(Rules rules, Map<Integer, List<Step>> all) {
        Map<Integer, Integer> distances = new HashMap<>();
        for (int state : all.keySet()) {
            if (rules.isEnd(state)) {
                distances.put(state, 0);
            }
        }
        boolean changed = true;
        while (changed) {
            changed = false;
            for (Map.Entry<Integer, List<Step>> entry : all.entrySet()) {
                for (Step step : entry.getValue()) {
                    Integer there = distances.get(step.next());
                    Integer here = distances.get(entry.getKey());
                    if (there != null && (here == null || there + 1 < here)) {
                        distances.put(entry.getKey(), there + 1);
                        changed = true;
                    }
                }
            }
        }
        return distances;
    }
}
