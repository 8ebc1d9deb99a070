/** Promise 1: what a new object answers, and that two objects have nothing in common. */
public final class NewObjectTest {
    private static final Checks CHECKS = new Checks();

    public static void main(String[] args) {
        StatePuzzles fresh = new StatePuzzles();
        for (int k = -1; k < 3; k++) {
            CHECKS.due("step(k, false) of a new object", fresh.step(k, false), -2);
            CHECKS.due("step(k, true) of a new object", fresh.step(k, true), -2);
            CHECKS.due("towerMove(k, 0) of a new object", fresh.towerMove(k, 0), -1);
        }
        CHECKS.due("goal(0, -1) without a jug", fresh.goal(0, -1), false);
        CHECKS.due("jugs() without a jug", fresh.jugs(), 0);
        CHECKS.due("crossing() without a text", fresh.crossing(), -2);
        CHECKS.due("jug(9, 0) is the first", fresh.jug(9, 0), 0);
        objectsAreApart();
        CHECKS.end();
    }

    private static void objectsAreApart() {
        StatePuzzles used = new StatePuzzles();
        used.jug(3, 0);
        used.goal(0, 3);
        used.jugs();
        used.unit('a');
        used.tower(4, 7);
        StatePuzzles fresh = new StatePuzzles();
        CHECKS.due("step beside a used object", fresh.step(0, false), -2);
        CHECKS.due("towerMove beside a used object", fresh.towerMove(0, 0), -1);
        CHECKS.due("crossing beside a used object", fresh.crossing(), -2);
        CHECKS.due("jug beside a used object", fresh.jug(2, 2), 0);
        CHECKS.due("step of the used object", used.step(0, true), 0);
        CHECKS.due("crossing of the used object", used.crossing(), -3);
        CHECKS.due("towerMove of the used object", used.towerMove(24, 0), 0);
    }
}
