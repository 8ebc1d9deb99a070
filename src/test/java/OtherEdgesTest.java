/** Each sentence on new objects, coins, towers and rings that names an edge: Terms, promises 1 and 8 to 12. */
public final class OtherEdgesTest {
    private static final Checks CHECKS = new Checks();

    public static void main(String[] args) {
        fiveHundredAndTwelveCalls();
        aNewObject();
        coinsOfWhichOneIsHeavier();
        coinsOfWhichOneIsOdd();
        coinsThatCantBeTold();
        coinsAndKindsThatAreNotSo();
        towersOfNoDiscs();
        towersOfFewDiscs();
        partsOfTowersThatAreAlike();
        pegsThatAreLeftOver();
        towersAtTheirGreatest();
        towersThatAreNotSo();
        movesThatAreNone();
        movesFarOut();
        ringsOfFew();
        ringsAtTheirGreatest();
        ringsThatAreNotSo();
        ringsBehindSteps();
        ringStepsThatAreNone();
        ringsOfTooMany();
        CHECKS.end();
    }

    private static Run run(String sentence) {
        return new Run(CHECKS, sentence);
    }

    private static void fiveHundredAndTwelveCalls() {
        Run run = run("An object is used for at most 512 calls after it has been made")
            .jug(9, 0, 0).jug(9, 4, 1).jug(8, 8, 2).jug(7, 0, 3).goal(0, 4, true).goal(1, 9, true)
            .tower(4, 40, 2817);
        while (run.calls() < 512 - 10) {
            run.jugs(2).step(0, -1, 0).step(1, 0, 1).noStep(2);
            run.units("ab 1").crossing(3).step(2, 2, 3).noStep(3);
        }
        while (run.calls() < 512 - 4) {
            run.rings(5, 21);
        }
        run.jugs(2).towerMove(2816, 2, 1).step(1, 0, 1);
        CHECKS.due("calls made of one object", run.calls(), 512);
    }

    private static void aNewObject() {
        run("No jugs").goal(0, -1, false).jugs(0).jug(9, 4, 0).goal(1, -1, false).jugs(0);
        run("no text").crossing(-2);
        run("no text").units("a 1").crossing(1);
        run("no text").units("x".repeat(100)).unit('x', false).crossing(-2);
        run("no steps found").noStep(0).noStep(-1).noStep(1);
        run("a tower of no discs on three pegs").noMove(0).noMove(-1).noMove(1);
    }

    private static void coinsOfWhichOneIsHeavier() {
        run("0: one of n is heavier than all others, which are alike")
            .weigh(1, 0, 0).weigh(2, 0, 1).weigh(3, 0, 1).weigh(4, 0, 2).weigh(9, 0, 2).weigh(10, 0, 3).weigh(13, 0, 3);
    }

    private static void coinsOfWhichOneIsOdd() {
        run("1: one of n is heavier or lighter, one does not know which")
            .weigh(3, 1, 2).weigh(4, 1, 3).weigh(12, 1, 3).weigh(13, 1, 4);
    }

    private static void coinsThatCantBeTold() {
        run("-1 when it can't be told however often").weigh(1, 1, -1).weigh(2, 1, -1).weigh(3, 1, 2).weigh(1, 0, 0);
    }

    private static void coinsAndKindsThatAreNotSo() {
        run("-2 when n (1 to 13) is not so")
            .weigh(0, 0, -2).weigh(0, 1, -2).weigh(-1, 0, -2).weigh(-1, 1, -2).weigh(14, 0, -2).weigh(14, 1, -2)
            .weigh(Integer.MAX_VALUE, 0, -2).weigh(Integer.MIN_VALUE, 1, -2).weigh(256 + 3, 0, -2).weigh(27, 1, -2);
        run("-2 when kind is not so")
            .weigh(1, -1, -2).weigh(1, 2, -2).weigh(13, -1, -2).weigh(13, 2, -2).weigh(2, 2, -2)
            .weigh(5, Integer.MAX_VALUE, -2).weigh(5, Integer.MIN_VALUE, -2).weigh(5, 256, -2);
        run("-2 when n or kind is not so: both").weigh(0, 2, -2).weigh(14, -1, -2);
    }

    private static void towersOfNoDiscs() {
        run("With four pegs: none for n = 0").tower(4, 0, 0).noMove(0).noMove(-1);
        run("n discs 0 (the least) to n - 1: with three pegs none for n = 0").tower(3, 0, 0).noMove(0).noMove(-1);
        run("none for n = 0, behind a greater tower").tower(4, 3, 5).move(0, 0, 0, 2).tower(4, 0, 0).noMove(0);
    }

    private static void towersOfFewDiscs() {
        run("All are to come to peg 1: one disc").tower(3, 1, 1).move(0, 0, 0, 1).noMove(1)
            .tower(4, 1, 1).move(0, 0, 0, 1).noMove(1);
        run("the n - 1 lesser ones come (likewise) to the third peg, the greatest to peg 1, the lesser ones to peg 1")
            .tower(3, 2, 3).move(0, 0, 0, 2).move(1, 1, 0, 1).move(2, 0, 2, 1).noMove(3)
            .tower(3, 3, 7).move(0, 0, 0, 1).move(1, 1, 0, 2).move(2, 0, 1, 2).move(3, 2, 0, 1)
            .move(4, 0, 2, 0).move(5, 1, 2, 1).move(6, 0, 0, 1).noMove(7);
        run("the k least ones come by four pegs to peg 2, the others by three pegs (0, 1, 3) to peg 1")
            .tower(4, 3, 5).move(0, 0, 0, 2).move(1, 1, 0, 3).move(2, 2, 0, 1).move(3, 1, 3, 1).move(4, 0, 2, 1).noMove(5);
    }

    /** Of two discs k 0 and 1 are alike, of four k 1 and 2, of five k 2 alone is best. */
    private static void partsOfTowersThatAreAlike() {
        String sentence = "k from 0 to n - 1 is the one by which there are fewest moves, of alike ones the least";
        run(sentence).tower(4, 2, 3).move(0, 0, 0, 3).move(1, 1, 0, 1).move(2, 0, 3, 1);
        run(sentence).tower(4, 4, 9).move(0, 0, 0, 2).move(1, 1, 0, 1).move(2, 2, 0, 3).move(3, 1, 1, 3)
            .move(4, 3, 0, 1).move(5, 1, 3, 0).move(6, 2, 3, 1).move(7, 1, 0, 1).move(8, 0, 2, 1);
        run(sentence).tower(4, 5, 13).move(3, 2, 0, 1).move(6, 4, 0, 1);
    }

    /** Of six discs the three least go first, and of these the least one first: from 0 to 2, by 1 and 3. */
    private static void pegsThatAreLeftOver() {
        run("the two pegs that are left over being taken in the order of their numbers (the k least to the lesser one)")
            .tower(4, 6, 17).move(0, 0, 0, 1).move(1, 1, 0, 3).move(2, 2, 0, 2).move(3, 1, 3, 2).move(4, 0, 1, 2)
            .move(8, 5, 0, 1).move(12, 0, 2, 0).move(13, 1, 2, 3).move(14, 2, 2, 1).move(15, 1, 3, 1).move(16, 0, 0, 1);
    }

    private static void towersAtTheirGreatest() {
        run("A tower with 3 or 4 pegs and 0 to 40 discs: the most")
            .tower(3, 40, 1099511627775L).move(0, 0, 0, 2).move((1L << 39) - 1, 39, 0, 1).move((1L << 40) - 2, 0, 2, 1)
            .tower(4, 40, 2817).move(2816, 0, 2, 1).tower(3, 39, 549755813887L).tower(4, 39, 2561);
    }

    private static void towersThatAreNotSo() {
        String sentence = "-1, doing nothing, when they are not so";
        int[][] wrong = {{2, 3}, {5, 3}, {0, 0}, {-1, 3}, {-3, 3}, {3, -1}, {4, -1}, {3, 41}, {4, 41}, {2, 41}, {5, -1},
            {Integer.MAX_VALUE, 3}, {Integer.MIN_VALUE, 3}, {3, Integer.MAX_VALUE}, {4, Integer.MIN_VALUE},
            {3, 64}, {4, 256}, {256 + 3, 3}};
        for (int[] pair : wrong) {
            run(sentence).tower(pair[0], pair[1], -1).noMove(0);
            run(sentence).tower(4, 3, 5).tower(pair[0], pair[1], -1).move(0, 0, 0, 2).move(4, 0, 2, 1).noMove(5);
            run(sentence).tower(3, 3, 7).tower(pair[0], pair[1], -1).move(0, 0, 0, 1).move(6, 0, 0, 1).noMove(7);
        }
    }

    private static void movesThatAreNone() {
        run("Of move k (from 0 on) of the tower; -1 when there is none such")
            .tower(3, 2, 3).noMove(-1).move(0, 0, 0, 2).move(2, 0, 2, 1).noMove(3).noMove(Long.MAX_VALUE)
            .noMove(Long.MIN_VALUE).noMove(1L << 32).noMove(-1L << 32).noMove(Integer.MIN_VALUE)
            .tower(4, 40, 2817).noMove(-1).noMove(2817).noMove(Long.MAX_VALUE).noMove(Long.MIN_VALUE).noMove(1L << 32)
            .tower(3, 40, 1099511627775L).noMove(1099511627775L).noMove(-1).noMove(Long.MAX_VALUE).noMove(Long.MIN_VALUE);
        int[] wrongWhat = {-1, 3, 4, 256, Integer.MAX_VALUE, Integer.MIN_VALUE};
        for (int what : wrongWhat) {
            run("0 the disc, 1 the peg from which, 2 the peg to which; -1 when there is none such")
                .tower(3, 2, 3).towerMove(0, what, -1).towerMove(1, what, -1).tower(4, 6, 17)
                .towerMove(0, what, -1).towerMove(8, what, -1).towerMove(16, what, -1);
        }
    }

    /** Beyond 2 to the 32 each second move is still one of disc 0, by turns of three pegs. */
    private static void movesFarOut() {
        run("Of move k: as long as it is")
            .tower(3, 40, 1099511627775L).towerMove(1L << 32, 0, 0).towerMove((1L << 32) - 1, 0, 32)
            .towerMove((1L << 31) - 1, 0, 31).towerMove(1L << 31, 0, 0).towerMove((1L << 38) - 1, 0, 38)
            .towerMove((1L << 32) - 1, 1, 0).towerMove((1L << 32) - 1, 2, 2);
    }

    private static void ringsOfFew() {
        run("RINGS: n of them, all on a bar: none").rings(0, 0).ring(0, 0, 0).ring(0, 1, -1);
        run("A step takes ring 0 off or puts it on").rings(1, 1).ring(1, 0, 1).ring(1, 1, 0).ring(1, 2, -1);
        run("or that ring which is next behind the least one that is on")
            .rings(2, 2).ring(2, 0, 3).ring(2, 1, 1).ring(2, 2, 0).ring(2, 3, -1)
            .rings(3, 5).ring(3, 0, 7).ring(3, 1, 6).ring(3, 2, 2).ring(3, 3, 3).ring(3, 4, 1).ring(3, 5, 0);
    }

    private static void ringsAtTheirGreatest() {
        run("How many steps n rings take: 60 of them")
            .rings(60, 768614336404564650L).rings(59, 384307168202282325L).rings(32, 2863311530L).rings(31, 1431655765L);
    }

    private static void ringsThatAreNotSo() {
        run("-1 when n is not 0 to 60").rings(0, 0).rings(60, 768614336404564650L).rings(-1, -1).rings(61, -1)
            .rings(62, -1).rings(63, -1).rings(64, -1).rings(65, -1).rings(-64, -1).rings(256, -1)
            .rings(Integer.MAX_VALUE, -1).rings(Integer.MIN_VALUE, -1);
    }

    private static void ringsBehindSteps() {
        run("Which of n rings are on behind so many of these steps, ring i as bit i: behind none")
            .ring(1, 0, 1).ring(31, 0, 2147483647L).ring(32, 0, 4294967295L).ring(60, 0, 1152921504606846975L);
        run("Which of n rings are on behind so many of these steps: behind the first")
            .ring(59, 1, (1L << 59) - 2).ring(60, 1, (1L << 60) - 1 - 2);
        run("Which of n rings are on behind so many of these steps: behind all, and one before")
            .ring(60, 768614336404564650L, 0).ring(60, 768614336404564649L, 1).ring(59, 384307168202282325L, 0)
            .ring(32, 2863311530L, 0).ring(32, 2863311529L, 1);
    }

    private static void ringStepsThatAreNone() {
        run("-1 when there are not so many steps")
            .ring(0, 1, -1).ring(0, -1, -1).ring(5, 21, 0).ring(5, 22, -1).ring(5, -1, -1).ring(5, 1L << 32, -1)
            .ring(60, 768614336404564651L, -1).ring(60, -1, -1).ring(60, Long.MAX_VALUE, -1)
            .ring(60, Long.MIN_VALUE, -1).ring(5, Long.MIN_VALUE, -1).ring(5, Long.MAX_VALUE, -1).ring(5, -1L << 32, -1);
    }

    private static void ringsOfTooMany() {
        int[] wrong = {-1, 61, 62, 63, 64, 65, -64, 256, Integer.MAX_VALUE, Integer.MIN_VALUE};
        for (int n : wrong) {
            run("-1 when n is not 0 to 60").ring(n, 0, -1).ring(n, 1, -1).ring(n, -1, -1);
        }
    }
}
