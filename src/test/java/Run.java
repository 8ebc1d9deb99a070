/** A new object, tried for one sentence of the document: each call stands with the answer that is due. */
final class Run {
    private final Checks checks;
    private final String sentence;
    private final StatePuzzles puzzles = new StatePuzzles();
    private int calls;

    Run(Checks checks, String sentence) {
        this.checks = checks;
        this.sentence = sentence;
    }

    int calls() {
        return calls;
    }

    Run jug(int size, int now, int due) {
        return told("jug(" + size + ", " + now + ")", puzzles.jug(size, now), due);
    }

    Run goal(int jug, int v, boolean due) {
        return told("goal(" + jug + ", " + v + ")", puzzles.goal(jug, v), due);
    }

    Run jugs(int due) {
        return told("jugs()", puzzles.jugs(), due);
    }

    Run unit(int u, boolean due) {
        return told("unit(" + u + ")", puzzles.unit(u), due);
    }

    Run units(String text) {
        for (int i = 0; i < text.length(); i++) {
            unit(text.charAt(i), true);
        }
        return this;
    }

    Run crossing(int due) {
        return told("crossing()", puzzles.crossing(), due);
    }

    Run crossing(String text, int due) {
        units(text);
        return told("crossing() of '" + text + "'", puzzles.crossing(), due);
    }

    Run step(int k, int first, int second) {
        told("step(" + k + ", false)", puzzles.step(k, false), first);
        return told("step(" + k + ", true)", puzzles.step(k, true), second);
    }

    Run noStep(int k) {
        return step(k, -2, -2);
    }

    Run weigh(int n, int kind, int due) {
        return told("weigh(" + n + ", " + kind + ")", puzzles.weigh(n, kind), due);
    }

    Run tower(int pegs, int discs, long due) {
        return told("tower(" + pegs + ", " + discs + ")", puzzles.tower(pegs, discs), due);
    }

    Run towerMove(long k, int what, int due) {
        return told("towerMove(" + k + ", " + what + ")", puzzles.towerMove(k, what), due);
    }

    Run move(long k, int disc, int from, int to) {
        return towerMove(k, 0, disc).towerMove(k, 1, from).towerMove(k, 2, to);
    }

    Run noMove(long k) {
        return move(k, -1, -1, -1);
    }

    Run rings(int n, long due) {
        return told("rings(" + n + ")", puzzles.rings(n), due);
    }

    Run ring(int n, long steps, long due) {
        return told("ring(" + n + ", " + steps + ")", puzzles.ring(n, steps), due);
    }

    private Run told(String call, boolean got, boolean due) {
        return told(call, got ? 1 : 0, due ? 1 : 0);
    }

    private Run told(String call, long got, long due) {
        calls++;
        checks.due("\"" + sentence + "\", call " + calls + ": " + call, got, due);
        return this;
    }
}
