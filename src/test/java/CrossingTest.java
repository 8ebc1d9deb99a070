import java.util.List;
import java.util.Random;

/** Promises 5 and 6, and 7 for the steps of a crossing. */
public final class CrossingTest {
    private static final Checks CHECKS = new Checks();

    public static void main(String[] args) {
        unitsAreTested();
        theTextHoldsAHundred();
        refusedUnitsAreNotKept();
        wrongTextsTellThePlace();
        allShortTextsAreReadRightly();
        theTextIsGone();
        stepsOfTheLatestRowAreTold();
        knownCrossings();
        rowsAreLeastAndShortest();
        CHECKS.end();
    }

    private static int crossingOf(StatePuzzles x, String text) {
        for (int i = 0; i < text.length(); i++) {
            CHECKS.due("unit(" + (int) text.charAt(i) + ")", x.unit(text.charAt(i)), true);
        }
        return x.crossing();
    }

    private static void place(String text, int place) {
        StatePuzzles x = new StatePuzzles();
        CHECKS.due("crossing of '" + text + "'", crossingOf(x, text), -2 - place);
        CHECKS.due("step behind '" + text + "'", x.step(0, false), -2);
    }

    private static void unitsAreTested() {
        StatePuzzles x = new StatePuzzles();
        int[] wrong = {-1, 256, -2, 257, 353, Integer.MAX_VALUE, Integer.MIN_VALUE};
        for (int u : wrong) {
            CHECKS.due("unit(" + u + ")", x.unit(u), false);
        }
        CHECKS.due("unit(0)", x.unit(0), true);
        CHECKS.due("unit(255)", x.unit(255), true);
    }

    private static void theTextHoldsAHundred() {
        StatePuzzles x = new StatePuzzles();
        StringBuilder text = new StringBuilder("abcde");
        while (text.length() < 98) {
            text.append(" ab");
        }
        text.append(" 2");
        CHECKS.due("length of the long text", text.length(), 100);
        for (int i = 0; i < 100; i++) {
            CHECKS.due("unit " + i, x.unit(text.charAt(i)), true);
        }
        CHECKS.due("unit 100", x.unit('x'), false);
        CHECKS.due("crossing of the long text", x.crossing(), 5);
        CHECKS.due("unit behind crossing", x.unit('a'), true);
        CHECKS.due("crossing of one letter", x.crossing(), -3);
        CHECKS.due("crossing of a hundred bytes that end too soon", crossingOf(x, text.substring(0, 99) + "a"), -102);
        CHECKS.due("crossing of a hundred bytes, the last wrong", crossingOf(x, text.substring(0, 99) + "4"), -101);
    }

    private static void refusedUnitsAreNotKept() {
        StatePuzzles x = new StatePuzzles();
        x.unit('a');
        x.unit(256 + 'b');
        x.unit(' ');
        x.unit(-1);
        x.unit('1');
        CHECKS.due("crossing with refused bytes between", x.crossing(), 1);
    }

    private static void wrongTextsTellThePlace() {
        place("", 0);
        place("i 1", 0);
        place("A 1", 0);
        place("`", 0);
        place(" 1", 0);
        place("1", 0);
        place("a", 1);
        place("aa 1", 1);
        place("a1", 1);
        place("ai 1", 1);
        place("abcdefgh", 8);
        place("abcdefgha 1", 8);
        place("abcdefghi 1", 8);
        place("ab ", 3);
        place("ab  1", 3);
        place("ab 0", 3);
        place("ab 4", 3);
        place("ab c", 3);
        place("ab \u00e1", 3);
        place("ab i", 3);
        place("ab `", 3);
        place("ab ai 1", 4);
        place("ab a` 1", 4);
        place("ab a", 4);
        place("ab aa 1", 4);
        place("ab ac 1", 4);
        place("ab a1", 4);
        place("ab a ", 4);
        place("ab ab", 5);
        place("ab aba 1", 5);
        place("ab ab1", 5);
        place("ab ab ", 6);
        place("ab ab ba ab 1 ", 13);
        place("a 1x", 3);
        place("a 11", 3);
        place("a 1 1", 3);
        // One thing has no other: its letter may stand there, and what follows may not.
        place("a a", 3);
        place("a aa 1", 3);
        place("\u0000", 0);
        place("\u00ff", 0);
    }

    /** Every text of up to seven bytes over a few bytes, by a reader that is written otherwise. */
    private static void allShortTextsAreReadRightly() {
        char[] bytes = {'a', 'b', ' ', '1', 'x'};
        StatePuzzles x = new StatePuzzles();
        for (int length = 0; length <= 7; length++) {
            int texts = (int) Math.round(Math.pow(bytes.length, length));
            for (int number = 0; number < texts; number++) {
                StringBuilder text = new StringBuilder();
                for (int rest = number, i = 0; i < length; i++, rest /= bytes.length) {
                    text.append(bytes[rest % bytes.length]);
                }
                int wrong = firstWrong(text.toString());
                int answer = crossingOf(x, text.toString());
                CHECKS.holds("'" + text + "' answered " + answer + ", first wrong is " + wrong,
                    wrong == -1 ? answer >= 1 : answer == -2 - wrong);
            }
        }
    }

    /** How long the longest beginning is that has right bytes alone; -1 when the text is right. */
    private static int firstWrong(String text) {
        if (text.matches("(a|b|(ab|ba)( ab| ba)*) 1")) {
            return -1;
        }
        for (int end = text.length(); end > 0; end--) {
            String start = text.substring(0, end);
            if (start.matches("(a|b)( 1?)?|a a|b b|(ab|ba)( ab| ba)*( [ab1]?)?")) {
                return end;
            }
        }
        return 0;
    }

    private static void theTextIsGone() {
        StatePuzzles x = new StatePuzzles();
        CHECKS.due("crossing of 'ab 1'", crossingOf(x, "ab 1"), 3);
        CHECKS.due("crossing without a text", x.crossing(), -2);
        CHECKS.due("step behind it", x.step(0, false), -2);
        CHECKS.due("crossing of 'x'", crossingOf(x, "x"), -2);
        CHECKS.due("crossing of 'c 1' behind a wrong text", crossingOf(x, "c 1"), 1);
        CHECKS.due("rules of the text before are gone", crossingOf(x, "abc ab bc 1"), 7);
        CHECKS.due("crossing without these rules", crossingOf(x, "abc 1"), 5);
        CHECKS.due("crossing of none found", crossingOf(x, "abc ab bc ca 1"), -1);
        CHECKS.due("step behind none found", x.step(0, false), -2);
        CHECKS.due("crossing without a text", x.crossing(), -2);
    }

    private static void stepsOfTheLatestRowAreTold() {
        StatePuzzles x = new StatePuzzles();
        x.jug(9, 4);
        x.goal(0, 0);
        CHECKS.due("jugs()", x.jugs(), 1);
        CHECKS.due("from of the jugs' step", x.step(0, false), 0);
        CHECKS.due("to of the jugs' step", x.step(0, true), -1);
        CHECKS.due("crossing of 'ba 1'", crossingOf(x, "ba 1"), 3);
        CHECKS.due("things of step 0", x.step(0, false), 1);
        CHECKS.due("far bank behind step 0", x.step(0, true), 1);
        CHECKS.due("things of step 1", x.step(1, false), 0);
        CHECKS.due("things of step 2", x.step(2, false), 2);
        CHECKS.due("far bank behind step 2", x.step(2, true), 3);
        CHECKS.due("step 3", x.step(3, true), -2);
        CHECKS.due("step of the greatest number", x.step(Integer.MAX_VALUE, true), -2);
        CHECKS.due("step of the least number", x.step(Integer.MIN_VALUE, false), -2);
        CHECKS.due("jugs() behind a crossing", x.jugs(), 1);
        CHECKS.due("to of the jugs' step again", x.step(0, true), -1);
        CHECKS.due("step 1 of the jugs", x.step(1, false), -2);
    }

    private static void knownCrossings() {
        CHECKS.due("a wolf, a goat, a cabbage", crossingOf(new StatePuzzles(), "hca hc ca 1"), 7);
        CHECKS.due("the same with a larger boat", crossingOf(new StatePuzzles(), "hca hc ca 2"), 3);
        CHECKS.due("the same with one for all", crossingOf(new StatePuzzles(), "hca hc ca 3"), 1);
        CHECKS.due("eight things one by one", crossingOf(new StatePuzzles(), "abcdefgh 1"), 15);
        CHECKS.due("eight things by three", crossingOf(new StatePuzzles(), "hgfedcba 3"), 5);
        CHECKS.due("two that go together", crossingOf(new StatePuzzles(), "ab ab 2"), 1);
    }

    private static void rowsAreLeastAndShortest() {
        Random random = new Random(2);
        for (int turn = 0; turn < 500; turn++) {
            compare(random);
        }
    }

    private static void compare(Random random) {
        StringBuilder letters = new StringBuilder("abcdefgh");
        StringBuilder text = new StringBuilder();
        int things = 1 + random.nextInt(8);
        for (int i = 0; i < things; i++) {
            int at = random.nextInt(letters.length());
            text.append(letters.charAt(at));
            letters.deleteCharAt(at);
        }
        boolean[][] apart = new boolean[things][things];
        int pairs = things == 1 ? 0 : random.nextInt(things + 2);
        for (int i = 0; i < pairs; i++) {
            int one = random.nextInt(things);
            int other = (one + 1 + random.nextInt(things - 1)) % things;
            apart[one][other] = true;
            apart[other][one] = true;
            text.append(' ').append(text.charAt(one)).append(text.charAt(other));
        }
        int boat = 1 + random.nextInt(3);
        text.append(' ').append(boat);
        StatePuzzles x = new StatePuzzles();
        List<LeastRow.Step> row = LeastRow.find(new RiverRules(apart, boat), 0);
        CHECKS.due("crossing of '" + text + "'", crossingOf(x, text.toString()), row == null ? -1 : row.size());
        int found = row == null ? 0 : row.size();
        for (int k = 0; k < found; k++) {
            CHECKS.due("'" + text + "' things of " + k, x.step(k, false), row.get(k).first());
            CHECKS.due("'" + text + "' far bank behind " + k, x.step(k, true), row.get(k).second());
        }
        CHECKS.due("'" + text + "' things behind the last", x.step(found, false), -2);
        CHECKS.due("'" + text + "' far bank behind the last", x.step(found, true), -2);
    }
}
