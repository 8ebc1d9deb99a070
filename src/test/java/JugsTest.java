import java.util.List;
import java.util.Random;

/** Promises 2, 3 and 4, and 7 for the steps of jugs. */
public final class JugsTest {
    private static final Checks CHECKS = new Checks();

    public static void main(String[] args) {
        jugsAreNumbered();
        goalsAreTested();
        refusedJugsAreNotKept();
        stepsFoundAreGone();
        noRowLeavesNoSteps();
        findingChangesNoJug();
        goalsMayBeTakenBack();
        fourGreatestJugs();
        rowsAreLeastAndShortest();
        CHECKS.end();
    }

    private static void jugsAreNumbered() {
        for (int size = -1; size <= 11; size++) {
            for (int now = -2; now <= 12; now++) {
                boolean right = size >= 1 && size <= 9 && now >= 0 && now <= size;
                StatePuzzles x = new StatePuzzles();
                CHECKS.due("jug(" + size + ", " + now + ")", x.jug(size, now), right ? 0 : -1);
                CHECKS.due("the jug behind it", x.jug(1, 1), right ? 1 : 0);
            }
        }
        StatePuzzles x = new StatePuzzles();
        for (int i = 0; i < 4; i++) {
            CHECKS.due("jug number " + i, x.jug(9 - i, i), i);
        }
        CHECKS.due("a fifth jug", x.jug(1, 0), -1);
        CHECKS.due("a wrong fifth jug", x.jug(0, 0), -1);
        CHECKS.due("jug of the greatest numbers", new StatePuzzles().jug(Integer.MAX_VALUE, Integer.MAX_VALUE), -1);
        CHECKS.due("jug of the least numbers", new StatePuzzles().jug(Integer.MIN_VALUE, Integer.MIN_VALUE), -1);
    }

    private static void goalsAreTested() {
        StatePuzzles x = new StatePuzzles();
        x.jug(3, 0);
        x.jug(7, 0);
        for (int jug = -2; jug <= 5; jug++) {
            for (int v = -3; v <= 10; v++) {
                boolean right = v >= -1 && (jug == 0 && v <= 3 || jug == 1 && v <= 7);
                CHECKS.due("goal(" + jug + ", " + v + ")", x.goal(jug, v), right);
            }
        }
        CHECKS.due("goal of the greatest jug", x.goal(Integer.MAX_VALUE, 0), false);
        CHECKS.due("goal of the least jug", x.goal(Integer.MIN_VALUE, 0), false);
        CHECKS.due("goal of the greatest level", x.goal(0, Integer.MAX_VALUE), false);
        CHECKS.due("goal of the least level", x.goal(0, Integer.MIN_VALUE), false);
    }

    private static void refusedJugsAreNotKept() {
        StatePuzzles x = new StatePuzzles();
        x.jug(5, 2);
        x.jug(4, 5);
        x.goal(0, 5);
        x.goal(0, 6);
        x.goal(1, 0);
        CHECKS.due("jugs() with refused calls between", x.jugs(), 1);
        CHECKS.due("its step's from", x.step(0, false), -1);
        CHECKS.due("its step's to", x.step(0, true), 0);
    }

    private static StatePuzzles withOneStep() {
        StatePuzzles x = new StatePuzzles();
        x.jug(5, 2);
        x.goal(0, 5);
        CHECKS.due("jugs() with one step to do", x.jugs(), 1);
        CHECKS.due("step(0, true) behind jugs()", x.step(0, true), 0);
        return x;
    }

    private static void stepsFoundAreGone() {
        StatePuzzles x = withOneStep();
        x.jug(3, 3);
        CHECKS.due("step behind jug", x.step(0, true), -2);
        x = withOneStep();
        x.jug(0, 0);
        CHECKS.due("step behind a refused jug", x.step(0, true), -2);
        x = withOneStep();
        x.goal(0, 5);
        CHECKS.due("step behind goal", x.step(0, true), -2);
        x = withOneStep();
        x.goal(3, 5);
        CHECKS.due("step behind a refused goal", x.step(0, true), -2);
        x = withOneStep();
        x.unit('a');
        x.unit(-1);
        x.tower(3, 5);
        x.towerMove(0, 0);
        x.weigh(5, 0);
        x.rings(4);
        x.ring(4, 1);
        x.step(9, true);
        CHECKS.due("step behind calls that leave it", x.step(0, true), 0);
        x.crossing();
        CHECKS.due("step behind a crossing that can't be read", x.step(0, true), -2);
    }

    private static void noRowLeavesNoSteps() {
        StatePuzzles x = new StatePuzzles();
        x.jug(4, 0);
        x.jug(6, 0);
        x.goal(0, 2);
        CHECKS.holds("jugs() finds a row", x.jugs() > 0);
        x.goal(0, 3);
        CHECKS.due("jugs() to an odd level of even jugs", x.jugs(), -1);
        CHECKS.due("step behind it", x.step(0, false), -2);
        CHECKS.due("jugs() once more", x.jugs(), -1);
    }

    private static void findingChangesNoJug() {
        StatePuzzles x = new StatePuzzles();
        x.jug(3, 0);
        x.jug(5, 0);
        x.goal(1, 4);
        CHECKS.due("jugs()", x.jugs(), 6);
        CHECKS.due("jugs() once more", x.jugs(), 6);
        x.goal(1, 0);
        CHECKS.due("jugs() to what is there", x.jugs(), 0);
        CHECKS.due("step of a row of none", x.step(0, false), -2);
        CHECKS.due("step before the first", x.step(-1, false), -2);
    }

    private static void goalsMayBeTakenBack() {
        StatePuzzles x = new StatePuzzles();
        x.jug(3, 0);
        x.goal(0, 1);
        CHECKS.due("jugs() to what one jug can't have", x.jugs(), -1);
        x.goal(0, -1);
        CHECKS.due("jugs() as it likes", x.jugs(), 0);
    }

    private static void fourGreatestJugs() {
        StatePuzzles x = new StatePuzzles();
        for (int i = 0; i < 4; i++) {
            CHECKS.due("jug(9, 9)", x.jug(9, 9), i);
            CHECKS.due("goal(" + i + ", 0)", x.goal(i, 0), true);
        }
        CHECKS.due("jugs() to empty four full ones", x.jugs(), 4);
        for (int k = 0; k < 4; k++) {
            CHECKS.due("from of " + k, x.step(k, false), k);
            CHECKS.due("to of " + k, x.step(k, true), -1);
        }
        x.goal(0, 8);
        CHECKS.due("jugs() to what full and empty ones of 9 can't have", x.jugs(), -1);
    }

    private static void rowsAreLeastAndShortest() {
        Random random = new Random(1);
        for (int turn = 0; turn < 400; turn++) {
            compare(random, 1 + random.nextInt(3), 9);
        }
        for (int turn = 0; turn < 60; turn++) {
            compare(random, 4, 4);
        }
        for (int turn = 0; turn < 8; turn++) {
            compare(random, 4, 9);
        }
    }

    private static void compare(Random random, int count, int mostSize) {
        int[] sizes = new int[count];
        int[] levels = new int[count];
        int[] goals = new int[count];
        StatePuzzles x = new StatePuzzles();
        StringBuilder told = new StringBuilder("jugs");
        for (int i = 0; i < count; i++) {
            sizes[i] = 1 + random.nextInt(mostSize);
            levels[i] = random.nextInt(sizes[i] + 1);
            x.jug(sizes[i], levels[i]);
        }
        for (int i = 0; i < count; i++) {
            goals[i] = random.nextInt(3) == 0 ? -1 : random.nextInt(sizes[i] + 1);
            x.goal(i, goals[i]);
            told.append(' ').append(levels[i]).append('/').append(sizes[i]).append("->").append(goals[i]);
        }
        List<LeastRow.Step> row = LeastRow.find(new JugRules(sizes, goals), JugRules.packed(levels));
        CHECKS.due(told.toString(), x.jugs(), row == null ? -1 : row.size());
        int found = row == null ? 0 : row.size();
        for (int k = 0; k < found; k++) {
            CHECKS.due(told + " from of " + k, x.step(k, false), row.get(k).first());
            CHECKS.due(told + " to of " + k, x.step(k, true), row.get(k).second());
        }
        CHECKS.due(told + " from behind the last", x.step(found, false), -2);
        CHECKS.due(told + " to behind the last", x.step(found, true), -2);
    }
}
