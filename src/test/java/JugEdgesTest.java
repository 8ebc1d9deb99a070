/** Each sentence on jugs that names an edge, in the document's order: Terms, promises 2, 3 and 4, and 7 for jugs. */
public final class JugEdgesTest {
    private static final Checks CHECKS = new Checks();

    public static void main(String[] args) {
        atMostFourJugs();
        sizes();
        asManyGreatestJugsAsMayBe();
        levels();
        filling();
        emptying();
        pouring();
        stepsThatChangeNothing();
        goalsOfSomeJugs();
        orderOfSteps();
        shorterRowsComeFirst();
        refusedJugs();
        jugForgetsSteps();
        goalOfAnyLevel();
        refusedGoals();
        goalForgetsSteps();
        rowOfNone();
        noRow();
        stepsOfJugs();
        CHECKS.end();
    }

    private static Run run(String sentence) {
        return new Run(CHECKS, sentence);
    }

    private static void atMostFourJugs() {
        run("JUGS, at most 4, numbered from 0 on")
            .jug(1, 0, 0).jug(1, 1, 1).jug(9, 0, 2).jug(9, 9, 3).jug(1, 0, -1).jug(9, 9, -1)
            .goal(0, 0, true).goal(3, 9, true).goal(4, 0, false).goal(-1, 0, false).jugs(0);
    }

    private static void sizes() {
        run("each of a SIZE 1 to 9")
            .jug(0, 0, -1).jug(-1, -1, -1).jug(-1, 0, -1).jug(10, 0, -1).jug(10, 10, -1)
            .jug(Integer.MAX_VALUE, 0, -1).jug(Integer.MIN_VALUE, 0, -1).jug(256 + 5, 0, -1)
            .jug(1, 0, 0).jug(9, 0, 1).goal(0, 1, true).goal(1, 9, true).jugs(2);
    }

    /** All of them full is the greatest state that so many jugs can have. */
    private static void asManyGreatestJugsAsMayBe() {
        for (int count = 1; count <= 4; count++) {
            Run full = run("each of a SIZE 1 to 9: " + count + " of 9 are full");
            Run empty = run("each of a SIZE 1 to 9: " + count + " of 9 are empty");
            for (int i = 0; i < count; i++) {
                full.jug(9, 9, i).goal(i, 0, true);
                empty.jug(9, 0, i).goal(i, 9, true);
            }
            full.jugs(count).step(0, 0, -1).step(count - 1, count - 1, -1).noStep(count);
            empty.jugs(count).step(0, -1, 0).step(count - 1, -1, count - 1).noStep(count);
            full.goal(0, 8, true).jugs(-1).noStep(0);
        }
    }

    private static void levels() {
        run("with so much in it (now is 0 to size)")
            .jug(5, -1, -1).jug(5, 6, -1).jug(9, 10, -1).jug(1, 2, -1)
            .jug(5, Integer.MAX_VALUE, -1).jug(5, Integer.MIN_VALUE, -1)
            .jug(5, 0, 0).jug(5, 5, 1).jug(5, 1, 2).jug(5, 4, 3)
            .goal(0, 0, true).goal(1, 5, true).goal(2, 1, true).goal(3, 4, true).jugs(0);
    }

    private static void filling() {
        run("from -1 a jug to is filled")
            .jug(7, 0, 0).jug(9, 8, 1).goal(0, 7, true).goal(1, 9, true).jugs(2).step(0, -1, 0).step(1, -1, 1);
    }

    private static void emptying() {
        run("to -1 a jug from is emptied")
            .jug(7, 7, 0).jug(9, 1, 1).goal(0, 0, true).goal(1, 0, true).jugs(2).step(0, 0, -1).step(1, 1, -1);
    }

    private static void pouring() {
        run("else all that is in from comes to to: room is left")
            .jug(5, 2, 0).jug(9, 3, 1).goal(0, 0, true).goal(1, 5, true).jugs(1).step(0, 0, 1);
        run("else all that is in from comes to to: it just fits")
            .jug(5, 3, 0).jug(5, 2, 1).goal(0, 5, true).goal(1, 0, true).jugs(1).step(0, 1, 0);
        run("or as much as to has room for")
            .jug(5, 4, 0).jug(5, 3, 1).goal(0, 2, true).goal(1, 5, true).jugs(1).step(0, 0, 1);
        run("or as much as to has room for: the greater number pours")
            .jug(1, 0, 0).jug(9, 9, 1).goal(0, 1, true).goal(1, 8, true).jugs(1).step(0, 1, 0);
    }

    private static void stepsThatChangeNothing() {
        run("Each of them may be done always, also when nothing changes: full ones stay full")
            .jug(3, 3, 0).jug(9, 9, 1).goal(0, 3, true).goal(1, 9, true).jugs(0).noStep(0);
        run("Each of them may be done always, also when nothing changes: what they lead to is not lost")
            .jug(4, 0, 0).jug(4, 4, 1).goal(0, 4, true).goal(1, 0, true).jugs(1).step(0, 1, 0);
    }

    private static void goalsOfSomeJugs() {
        run("GOALS are of some jugs how much is in them: of none")
            .jug(3, 1, 0).jug(5, 2, 1).jugs(0).noStep(0);
        run("GOALS are of some jugs how much is in them: of one")
            .jug(3, 0, 0).jug(5, 0, 1).goal(1, 3, true).jugs(2).step(0, -1, 0).step(1, 0, 1);
        run("GOALS are of some jugs how much is in them: of all")
            .jug(3, 0, 0).jug(5, 0, 1).goal(1, 3, true).goal(0, 3, true).jugs(3)
            .step(0, -1, 0).step(1, 0, 1).step(2, -1, 0);
    }

    private static void orderOfSteps() {
        run("Steps are ordered by from, then to: the first jug is filled first")
            .jug(3, 0, 0).jug(4, 0, 1).goal(1, 4, true).goal(0, 3, true).jugs(2).step(0, -1, 0).step(1, -1, 1);
        run("Steps are ordered by from, then to: filling comes first")
            .jug(3, 3, 0).jug(4, 0, 1).goal(0, 0, true).goal(1, 4, true).jugs(2).step(0, -1, 1).step(1, 0, -1);
        run("Steps are ordered by from, then to: filling comes before pouring")
            .jug(3, 3, 0).jug(4, 1, 1).goal(1, 4, true).jugs(1).step(0, -1, 1);
        run("Steps are ordered by from, then to: emptying comes before pouring")
            .jug(3, 2, 0).jug(4, 0, 1).goal(0, 0, true).jugs(1).step(0, 0, -1);
        run("Steps are ordered by from, then to: from counts before to")
            .jug(3, 1, 0).jug(3, 1, 1).jug(9, 0, 2).goal(2, 2, true).jugs(2).step(0, 0, 1).step(1, 1, 2);
    }

    private static void shorterRowsComeFirst() {
        run("A row of steps is shorter with fewer steps")
            .jug(2, 2, 0).jug(2, 0, 1).goal(0, 0, true).goal(1, 2, true).jugs(1).step(0, 0, 1).noStep(1);
    }

    private static void refusedJugs() {
        run("its number; -1 when there are 4")
            .jug(2, 2, 0).jug(2, 0, 1).jug(2, 2, 2).jug(2, 0, 3).jug(3, 1, -1).goal(3, 3, false).goal(3, 2, true)
            .jugs(1).step(0, -1, 3);
        run("-1 when they are not so: no number is used up")
            .jug(0, 0, -1).goal(0, -1, false).jug(2, 3, -1).goal(0, -1, false).jug(2, 2, 0).jug(2, -1, -1).jug(2, 1, 1)
            .goal(2, -1, false);
    }

    private static Run withSteps(String sentence) {
        return run(sentence).jug(5, 2, 0).goal(0, 5, true).jugs(1).step(0, -1, 0);
    }

    private static void jugForgetsSteps() {
        String sentence = "Promise 2: The steps found are gone";
        withSteps(sentence).jug(3, 3, 1).noStep(0).jugs(1).step(0, -1, 0);
        withSteps(sentence).jug(0, 0, -1).noStep(0).jugs(1).step(0, -1, 0);
        withSteps(sentence).jug(3, 3, 1).jug(3, 3, 2).jug(3, 3, 3).jugs(1).step(0, -1, 0).jug(3, 3, -1).noStep(0);
        run(sentence).crossing("a 1", 1).step(0, 1, 1).jug(3, 3, 0).noStep(0);
    }

    private static void goalOfAnyLevel() {
        run("-1: as it likes, as at first")
            .jug(5, 2, 0).jugs(0).goal(0, -1, true).jugs(0).goal(0, 4, true).jugs(-1).goal(0, -1, true).jugs(0);
    }

    private static void refusedGoals() {
        run("false when there is no such jug")
            .goal(0, -1, false).jug(3, 3, 0).goal(1, 0, false).goal(-1, 0, false).goal(-1, -1, false).goal(4, 0, false)
            .goal(Integer.MAX_VALUE, 0, false).goal(Integer.MIN_VALUE, 0, false)
            .jug(3, 3, 1).jugs(0).goal(1, 0, true).jugs(1).step(0, 1, -1);
        run("false when v is not -1 to its size")
            .jug(3, 1, 0).jug(9, 1, 1).goal(0, -2, false).goal(0, 4, false).goal(1, 10, false)
            .goal(0, Integer.MAX_VALUE, false).goal(0, Integer.MIN_VALUE, false).jugs(0)
            .goal(0, 3, true).goal(0, 4, false).goal(0, -2, false).jugs(1).step(0, -1, 0)
            .goal(0, 0, true).jugs(1).step(0, 0, -1).goal(1, 9, true).jugs(2);
    }

    private static void goalForgetsSteps() {
        String sentence = "Promise 3: The steps found are gone";
        withSteps(sentence).goal(0, 5, true).noStep(0).jugs(1).step(0, -1, 0);
        withSteps(sentence).goal(0, 6, false).noStep(0).jugs(1).step(0, -1, 0);
        withSteps(sentence).goal(1, 0, false).noStep(0).jugs(1).step(0, -1, 0);
        run(sentence).jug(3, 3, 0).crossing("a 1", 1).step(0, 1, 1).goal(0, -1, true).noStep(0);
    }

    private static void rowOfNone() {
        run("The least shortest row of steps to jugs as in the GOALS: no jugs, no steps").jugs(0).noStep(0);
        withSteps("The least shortest row of steps to jugs as in the GOALS: they are so")
            .goal(0, 2, true).jugs(0).noStep(0);
        run("The least shortest row of steps to jugs as in the GOALS: none behind a crossing's")
            .crossing("a 1", 1).step(0, 1, 1).jugs(0).noStep(0);
    }

    private static void noRow() {
        run("-1 when there is none (then no steps are found)")
            .jug(4, 0, 0).jug(6, 0, 1).goal(0, 2, true).jugs(4).step(0, -1, 0)
            .goal(0, 3, true).jugs(-1).noStep(0).noStep(-1).jugs(-1);
        run("-1 when there is none (then no steps are found): those of a crossing are gone too")
            .jug(2, 0, 0).goal(0, 1, true).crossing("a 1", 1).step(0, 1, 1).jugs(-1).noStep(0);
        run("-1 when there is none: one jug that is neither full nor empty may stay so")
            .jug(3, 1, 0).goal(0, 1, true).jugs(0).goal(0, 2, true).jugs(-1);
        run("-1 when there is none: both together can't be, each alone can")
            .jug(3, 1, 0).jug(3, 0, 1).goal(0, 1, true).jugs(0).goal(1, 1, true).jugs(-1)
            .goal(0, -1, true).jugs(1).step(0, 0, 1);
    }

    private static void stepsOfJugs() {
        run("Of step k (from 0 on) found latest: of jugs from (or, with second, to). -2 when there is none such")
            .noStep(0).jug(7, 0, 0).jug(9, 9, 1).goal(0, 7, true).goal(1, 0, true).jugs(2)
            .noStep(-1).step(0, -1, 0).step(1, 1, -1).noStep(2).noStep(3).noStep(8)
            .noStep(Integer.MAX_VALUE).noStep(Integer.MIN_VALUE).noStep(256).noStep(1 << 16)
            .step(0, -1, 0).step(1, 1, -1);
        run("found latest: a shorter row leaves nothing of a longer one")
            .jug(3, 0, 0).jug(5, 0, 1).goal(1, 4, true).jugs(6).step(5, 1, 0).noStep(6)
            .goal(1, 5, true).jugs(1).step(0, -1, 1).noStep(1).noStep(5);
    }
}
