/** Each sentence on crossings that names an edge, in the document's order: Terms, promises 5 and 6, and 7 for them. */
public final class CrossingEdgesTest {
    private static final Checks CHECKS = new Checks();

    public static void main(String[] args) {
        oneToEightThings();
        differentLetters();
        thingsInAnyOrder();
        pairsAsOftenAsOneLikes();
        pairsOfThings();
        pairsNotAlike();
        theBlank();
        theBoat();
        allOnTheNearBank();
        noneUpToTheBoat();
        notLeftTogether();
        allIsDone();
        setsAreNumbers();
        orderOfSteps();
        bytes();
        aHundredBytes();
        theTextIsGone();
        noRow();
        theFirstWrongByte();
        theTextEndsTooSoon();
        withoutARowNoSteps();
        stepsOfCrossings();
        CHECKS.end();
    }

    private static Run run(String sentence) {
        return new Run(CHECKS, sentence);
    }

    private static void wrong(String sentence, String text, int place) {
        run(sentence).crossing(text, -2 - place).noStep(0);
    }

    private static void oneToEightThings() {
        String sentence = "1 to 8 different letters a to h, the THINGS";
        wrong(sentence, " 1", 0);
        wrong(sentence, " ab 1", 0);
        run(sentence).crossing("a 1", 1).step(0, 1, 1).noStep(1);
        run(sentence).crossing("h 1", 1).step(0, 1, 1).noStep(1);
        run(sentence).crossing("abcdefgh 3", 5)
            .step(0, 3, 3).step(1, 0, 3).step(2, 28, 31).step(3, 0, 31).step(4, 224, 255).noStep(5);
        wrong(sentence, "` 1", 0);
        wrong(sentence, "i 1", 0);
        wrong(sentence, "A 1", 0);
        wrong(sentence, "H 1", 0);
        wrong(sentence, "1 1", 0);
        wrong(sentence, "abi 1", 2);
        wrong(sentence, "ab` 1", 2);
        wrong(sentence, "abcdefghi 1", 8);
        wrong(sentence, "abcdefgha 1", 8);
    }

    private static void differentLetters() {
        String sentence = "different letters";
        wrong(sentence, "aa 1", 1);
        wrong(sentence, "hh 1", 1);
        wrong(sentence, "aba 1", 2);
        wrong(sentence, "abcdefgg 1", 7);
        wrong(sentence, "bcdefghb 1", 7);
    }

    private static void thingsInAnyOrder() {
        String sentence = "the THINGS, in any order";
        run(sentence).crossing("hgfedcba 3", 5).step(4, 224, 255);
        run(sentence).crossing("hab ha 1", 5).step(0, 1, 1);
        run(sentence).crossing("bah ha 1", 5).step(0, 2, 2);
    }

    private static void pairsAsOftenAsOneLikes() {
        String sentence = "then as often as one likes a blank (32) and two letters";
        run(sentence).crossing("abc 1", 5);
        run(sentence).crossing("abc ab 1", 5);
        run(sentence).crossing("abc ab bc 1", 7);
        run(sentence).crossing("abc ab ab ab ba bc cb bc 1", 7);
        run(sentence).crossing("abcde" + " ab".repeat(31) + " 2", 5);
    }

    private static void pairsOfThings() {
        String sentence = "two letters of THINGS";
        wrong(sentence, "abd c", 4);
        wrong(sentence, "abd ca 1", 4);
        wrong(sentence, "abd ac 1", 5);
        wrong(sentence, "abd ab ac 1", 8);
        wrong(sentence, "abd ab da ca 1", 10);
        wrong(sentence, "ab i", 3);
        wrong(sentence, "ab `", 3);
        wrong(sentence, "ab A", 3);
        wrong(sentence, "ab ai 1", 4);
        wrong(sentence, "ab a` 1", 4);
        wrong(sentence, "ab aB 1", 4);
        wrong(sentence, "ab a1", 4);
        wrong(sentence, "ab a  1", 4);
        wrong(sentence, "ab aba 1", 5);
        wrong(sentence, "ab ab1", 5);
    }

    private static void pairsNotAlike() {
        String sentence = "that are not alike";
        wrong(sentence, "ab aa 1", 4);
        wrong(sentence, "ab bb 1", 4);
        wrong(sentence, "ab ab bb 1", 7);
        // The one letter is of THINGS, so it is its like behind it that may not be there.
        wrong(sentence, "a aa 1", 3);
        wrong(sentence, "a a 1", 3);
    }

    private static void theBlank() {
        String sentence = "a blank (32)";
        int[] notBlank = {0, 9, 10, 31, 33, 64, 95, 160, 255};
        for (int u : notBlank) {
            run(sentence).unit('a', true).unit(u, true).unit('1', true).crossing(-3).noStep(0);
            run(sentence).units("ab ab").unit(u, true).unit('1', true).crossing(-7).noStep(0);
        }
        wrong(sentence, "a1", 1);
        wrong(sentence, "a  1", 2);
        wrong(sentence, "ab ab  1", 6);
    }

    private static void theBoat() {
        String sentence = "then a blank and a digit 1 to 3, THE BOAT";
        run(sentence).crossing("abc 1", 5).crossing("abc 2", 3).crossing("abc 3", 1);
        wrong(sentence, "abc 0", 4);
        wrong(sentence, "abc 4", 4);
        wrong(sentence, "abc 9", 4);
        wrong(sentence, "abc /", 4);
        wrong(sentence, "abc \u0001", 4);
        wrong(sentence, "abc \u00b1", 4);
        wrong(sentence, "abc ab 0", 7);
        wrong(sentence, "abc 1 ", 5);
        wrong(sentence, "abc 11", 5);
        wrong(sentence, "abc 1 ab", 5);
        wrong(sentence, "abc 1 1", 5);
        wrong(sentence, "abc 1\u0000", 5);
    }

    private static void allOnTheNearBank() {
        run("All things and a boatman are on the near bank: each time anew")
            .crossing("ab 1", 3).step(0, 1, 1).crossing("ab 1", 3).step(0, 1, 1).step(1, 0, 1).step(2, 2, 3);
    }

    private static void noneUpToTheBoat() {
        String sentence = "takes some things of the bank where they are (none up to THE BOAT)";
        run(sentence).crossing("ab 1", 3).step(0, 1, 1).step(1, 0, 1).step(2, 2, 3).noStep(3);
        run(sentence).crossing("ab 2", 1).step(0, 3, 3).noStep(1);
        run(sentence).crossing("abc 2", 3).step(0, 1, 1).step(1, 0, 1).step(2, 6, 7).noStep(3);
        run(sentence).crossing("abc 3", 1).step(0, 7, 7).noStep(1);
        run(sentence).crossing("abcd 3", 3).step(0, 1, 1).step(1, 0, 1).step(2, 14, 15).noStep(3);
        run(sentence).crossing("abcdefgh 1", 15).step(13, 0, 127).step(14, 128, 255).noStep(15);
        run("none: with some rules a boatman goes over with all or brings one back").crossing("abc ab bc 1", 7)
            .step(0, 2, 2).step(1, 0, 2).step(2, 1, 3).step(3, 2, 1).step(4, 4, 5).step(5, 0, 5).step(6, 2, 7).noStep(7);
    }

    private static void notLeftTogether() {
        String near = "no two that may not be left together may be on the bank that they go from then: the near one";
        run(near).crossing("abc ab 1", 5).step(0, 1, 1);
        run(near).crossing("abc bc 1", 5).step(0, 2, 2);
        run(near).crossing("abc cb 1", 5).step(0, 2, 2);
        run(near).crossing("abc ab bc ca 1", -1);
        String far = "no two that may not be left together may be on the bank that they go from then: the far one";
        run(far).crossing("abc ab bc ca 2", 3).step(0, 3, 3).step(1, 1, 2).step(2, 5, 7).noStep(3);
        String others = "no two that may not be left together: the boat and the bank that they come to are free";
        run(others).crossing("ab ab 2", 1).step(0, 3, 3);
        run(others).crossing("ab ab 1", 3).step(2, 2, 3);
        run(others).crossing("abc ab bc ca 3", 1).step(0, 7, 7);
    }

    private static void allIsDone() {
        run("All is done when all things are on the far bank")
            .crossing("a 3", 1).step(0, 1, 1).crossing("gh 1", 3).step(2, 2, 3).crossing("abcdefgh 2", 7).step(6, 192, 255);
    }

    private static void setsAreNumbers() {
        String sentence = "A set of things is a number: bit i for the i-th thing of the text";
        run(sentence).crossing("ba 1", 3).step(0, 1, 1).step(2, 2, 3);
        run(sentence).crossing("cab bc 1", 5).step(0, 1, 1);
        run(sentence).crossing("acb bc 1", 5).step(0, 2, 2);
        run(sentence).crossing("abcdefgh gh 1", 15).step(0, 64, 64);
        run(sentence).crossing("abcdefgh ha hb 1", 17).step(0, 128, 128);
    }

    private static void orderOfSteps() {
        String sentence = "Steps are ordered by that number";
        run(sentence).crossing("abcd 2", 3).step(0, 3, 3).step(1, 0, 3).step(2, 12, 15);
        run(sentence).crossing("abcd bc 2", 3).step(0, 3, 3).step(2, 12, 15);
        run(sentence).crossing("abcd cd 2", 3).step(0, 5, 5).step(2, 10, 15);
        run(sentence).crossing("abcde 3", 3).step(0, 3, 3).step(1, 0, 3).step(2, 28, 31);
    }

    private static void bytes() {
        run("A byte comes behind the text: true; it is 0 to 255")
            .unit('a', true).unit(0, true).unit(' ', true).unit('1', true).crossing(-3)
            .unit('a', true).unit(255, true).unit(' ', true).unit('1', true).crossing(-3)
            .units("a 1").unit(0, true).crossing(-5).units("a 1").unit(255, true).crossing(-5);
        run("false, doing nothing, when it is not 0 to 255")
            .unit(-1, false).unit('a', true).unit(256, false).unit(Integer.MIN_VALUE, false).unit(' ', true)
            .unit(Integer.MAX_VALUE, false).unit(256 + 'b', false).unit((1 << 16) + 'b', false).unit('1', true)
            .unit('1' - 256, false).crossing(1).step(0, 1, 1).unit(-1, false).step(0, 1, 1);
    }

    private static void aHundredBytes() {
        String full = "abcde" + " ab".repeat(31) + " 2";
        CHECKS.due("bytes of the full text", full.length(), 100);
        run("false, doing nothing, when there are 100")
            .units(full).unit('a', false).unit(' ', false).unit(-1, false).crossing(5)
            .units(full).crossing(5);
        run("false, doing nothing, when there are 100: steps found stay")
            .crossing("a 1", 1).units(full).step(0, 1, 1).unit('a', false).step(0, 1, 1).crossing(5);
        run("there are 100, and the last is wrong").crossing(full.substring(0, 99) + "4", -2 - 99).noStep(0);
        run("there are 100, and it ends too soon").crossing(full.substring(0, 98) + " a", -2 - 100).noStep(0);
        run("there are 100, and it ends too soon").crossing("abcd" + " ab".repeat(32), -2 - 100).noStep(0);
    }

    private static void theTextIsGone() {
        String sentence = "The text is read (and is gone then)";
        run(sentence).crossing("ab 1", 3).crossing(-2).crossing("c 1", 1);
        run(sentence).crossing("x", -2).crossing(-2).crossing("c 1", 1);
        run(sentence).crossing("ab ", -5).units("1").crossing(-2);
        run(sentence).crossing("abc ab bc ca 1", -1).crossing(-2).crossing("abc 1", 5);
        run("The text is read alone by crossing").units("a ").jug(3, 3, 0).goal(0, 3, true).jugs(0).noStep(0)
            .tower(3, 1, 1).units("1").crossing(1);
    }

    private static void noRow() {
        String sentence = "-1 when there is none";
        run(sentence).crossing("abc ab bc ca 1", -1).noStep(0);
        run(sentence).crossing("abcd ab cd 1", -1).noStep(0);
        run(sentence).crossing("abcdefgh ab cd ef gh 3", -1).noStep(0);
    }

    private static void theFirstWrongByte() {
        String sentence = "-2 less the place of the first byte that may not be there";
        wrong(sentence, "x", 0);
        wrong(sentence, "xyz", 0);
        wrong(sentence, "axx", 1);
        wrong(sentence, "a xx", 2);
        wrong(sentence, "a 1x", 3);
        wrong(sentence, "ab ax", 4);
        wrong(sentence, "ab abx", 5);
        wrong(sentence, "ab ab x", 6);
        wrong(sentence, "ab ab 1x", 7);
    }

    private static void theTextEndsTooSoon() {
        String sentence = "how many bytes there are, when it ends too soon";
        String text = "abc ab cb 1";
        for (int end = 0; end < text.length(); end++) {
            wrong(sentence, text.substring(0, end), end);
        }
        run(sentence).crossing(text, 7);
        wrong(sentence, "abcdefgh", 8);
        wrong(sentence, "a ", 2);
    }

    private static void withoutARowNoSteps() {
        String sentence = "Without a row no steps are found";
        run(sentence).crossing("a 1", 1).step(0, 1, 1).crossing("abc ab bc ca 1", -1).noStep(0);
        run(sentence).crossing("a 1", 1).step(0, 1, 1).crossing("a x", -4).noStep(0);
        run(sentence).crossing("a 1", 1).step(0, 1, 1).crossing(-2).noStep(0);
        run(sentence).jug(3, 0, 0).goal(0, 3, true).jugs(1).step(0, -1, 0).crossing(-2).noStep(0);
        run(sentence).jug(3, 0, 0).goal(0, 3, true).jugs(1).step(0, -1, 0).crossing("abcd ab cd 1", -1).noStep(0);
    }

    private static void stepsOfCrossings() {
        run("of a crossing the things taken (or, with second, those on the far bank behind it). -2 when none such")
            .crossing("ab 1", 3).noStep(-1).step(0, 1, 1).step(1, 0, 1).step(2, 2, 3).noStep(3).noStep(4).noStep(8)
            .noStep(Integer.MAX_VALUE).noStep(Integer.MIN_VALUE).noStep(256).noStep(1 << 16);
        run("Of step k found latest: jugs behind a crossing, and a crossing behind jugs")
            .jug(9, 9, 0).goal(0, 0, true).jugs(1).step(0, 0, -1)
            .crossing("ba 1", 3).step(0, 1, 1).step(2, 2, 3).noStep(3)
            .jugs(1).step(0, 0, -1).noStep(1).noStep(2);
    }
}
