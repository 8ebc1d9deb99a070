import java.util.Arrays;

/** Small puzzles of states: jugs, crossings of a river, coins on a balance, towers of discs, rings on a bar. */
public final class StatePuzzles {
    private static final int NONE = -1;
    private static final int NO_SUCH = -2;
    private static final int MOST_STATES = 10000;
    private static final int MOST_COINS = 13;
    private static final int MOST_RINGS = 60;

    private final JugSet jugSet;
    private final River river;
    private final RiverText riverText;
    private final Search search;
    private final FoundSteps found;
    private final Tower discTower;

    public StatePuzzles() {
        jugSet = new JugSet();
        river = new River();
        riverText = new RiverText();
        search = new Search();
        found = new FoundSteps();
        discTower = new Tower();
    }

    public int jug(int size, int now) {
        found.forget();
        return jugSet.add(size, now);
    }

    public boolean goal(int jug, int v) {
        found.forget();
        return jugSet.want(jug, v);
    }

    public int jugs() {
        return find(jugSet);
    }

    public boolean unit(int u) {
        return riverText.add(u);
    }

    public int crossing() {
        int wrongPlace = riverText.readInto(river);
        riverText.forget();
        if (wrongPlace != NONE) {
            found.forget();
            return NO_SUCH - wrongPlace;
        }
        return find(river);
    }

    public int step(int k, boolean second) {
        return second ? found.second(k) : found.first(k);
    }

    public int weigh(int n, int kind) {
        if (n < 1 || n > MOST_COINS) {
            return NO_SUCH;
        }
        if (kind == 0) {
            return triesForHeavier(n);
        }
        return kind == 1 ? triesForOdd(n) : NO_SUCH;
    }

    public long tower(int pegs, int discs) {
        return discTower.set(pegs, discs) ? discTower.moves() : NONE;
    }

    public int towerMove(long k, int what) {
        return discTower.tellMove(k, what);
    }

    public long rings(int n) {
        return n < 0 || n > MOST_RINGS ? NONE : ringSteps(n);
    }

    public long ring(int n, long steps) {
        if (n < 0 || n > MOST_RINGS || steps < 0 || steps > ringSteps(n)) {
            return NONE;
        }
        // The states lie in one line, the Gray code of how many steps are still to do.
        long left = ringSteps(n) - steps;
        return left ^ (left >> 1);
    }

    private int find(Puzzle puzzle) {
        found.forget();
        int end = search.endOf(puzzle);
        if (end == NONE) {
            return NONE;
        }
        int count = search.stepsTo(end);
        found.makeRoom(count);
        int state = end;
        for (int k = count - 1; k >= 0; k--) {
            int code = search.stepInto(state);
            found.put(k, puzzle.firstTold(code), puzzle.secondTold(code, state));
            state = search.before(state);
        }
        return count;
    }

    /** Each weighing tells one of three parts, so w of them are enough for 3 to the w coins. */
    private static int triesForHeavier(int coins) {
        int tries = 0;
        for (int enough = 1; enough < coins; enough *= 3) {
            tries++;
        }
        return tries;
    }

    /** With no coin that is known to be good, w weighings are enough for (3 to the w, less 3) / 2 coins. */
    private static int triesForOdd(int coins) {
        if (coins < 3) {
            return NONE;
        }
        int tries = 2;
        for (int enough = 3; enough < coins; enough = enough * 3 + 3) {
            tries++;
        }
        return tries;
    }

    /** All rings on are the Gray code of two thirds of 2 to the n, rounded down. */
    private static long ringSteps(int n) {
        return (2L << n) / 3;
    }

    /** States numbered from 0 on, and the steps from each, coded as 0 to 255. */
    private abstract static class Puzzle {
        abstract int stateCount();

        abstract int startState();

        abstract boolean isDone(int state);

        /** Has the search meet what each step leads to, the steps in their order. */
        abstract void meetNext(int state, Search search);

        abstract int firstTold(int code);

        abstract int secondTold(int code, int stateBehind);
    }

    /**
     * A search by breadth. The states of one length are met in the order of their least rows, as those of the length
     * before were and as the steps are tried in order; so the row by which a state is first met is its least shortest.
     */
    private static final class Search {
        private static final int FIRST_ROOM = 512;
        private static final int CODE_BITS = 8;
        private static final int CODE_MASK = 255;

        /** Of each state met: 1 + the state before it and the code of the step between; 0 of others. */
        private int[] trace = new int[FIRST_ROOM];
        private int[] queue = new int[FIRST_ROOM];
        private int met;

        /** The first state met in which all is done. */
        int endOf(Puzzle puzzle) {
            makeRoom(puzzle.stateCount());
            Arrays.fill(trace, 0);
            met = 0;
            int start = puzzle.startState();
            meet(start, start, 0);
            for (int head = 0; head < MOST_STATES; head++) {
                if (head >= met || head >= queue.length) {
                    return NONE;
                }
                int state = queue[head];
                if (puzzle.isDone(state)) {
                    return state;
                }
                puzzle.meetNext(state, this);
            }
            return NONE;
        }

        void meet(int state, int before, int code) {
            if (state < 0 || state >= trace.length || trace[state] != 0 || met >= queue.length) {
                return;
            }
            trace[state] = 1 + (before << CODE_BITS | code);
            queue[met] = state;
            met++;
        }

        int stepsTo(int end) {
            int state = end;
            for (int count = 0; count < MOST_STATES; count++) {
                int before = before(state);
                if (before == state) {
                    return count;
                }
                state = before;
            }
            return MOST_STATES;
        }

        /** The start is before itself. */
        int before(int state) {
            return state < 0 || state >= trace.length ? state : (trace[state] - 1) >> CODE_BITS;
        }

        int stepInto(int state) {
            return state < 0 || state >= trace.length ? 0 : (trace[state] - 1) & CODE_MASK;
        }

        /** Rows are made when they are first needed, so that an object without many jugs stays small. */
        private void makeRoom(int states) {
            if (states > trace.length && states <= MOST_STATES) {
                trace = new int[states];
                queue = new int[states];
            }
        }
    }

    private static final class FoundSteps {
        private static final int FIRST_ROOM = 8;

        private int[] firsts = new int[FIRST_ROOM];
        private int[] seconds = new int[FIRST_ROOM];
        private int count;

        void forget() {
            count = 0;
        }

        void makeRoom(int steps) {
            if (steps > firsts.length && steps <= MOST_STATES) {
                firsts = new int[steps];
                seconds = new int[steps];
            }
            count = Math.min(steps, firsts.length);
        }

        void put(int k, int first, int second) {
            if (isFound(k)) {
                firsts[k] = first;
                seconds[k] = second;
            }
        }

        int first(int k) {
            return isFound(k) ? firsts[k] : NO_SUCH;
        }

        int second(int k) {
            return isFound(k) ? seconds[k] : NO_SUCH;
        }

        private boolean isFound(int k) {
            return k >= 0 && k < count && k < firsts.length && k < seconds.length;
        }
    }

    /** A state is a decimal number: how much is in jug i is its digit i. */
    private static final class JugSet extends Puzzle {
        private static final int MOST_JUGS = 4;
        private static final int MOST_SIZE = 9;
        private static final int LEVELS = MOST_SIZE + 1;
        private static final int[] DIGIT = {1, 10, 100, 1000};
        private static final int OUTSIDE = -1;
        private static final int ANY = -1;

        private final int[] sizes = new int[MOST_JUGS];
        private final int[] firstLevels = new int[MOST_JUGS];
        private final int[] wanted = new int[MOST_JUGS];
        private final int[] levels = new int[MOST_JUGS];
        private int count;

        int add(int size, int now) {
            if (count >= MOST_JUGS || size < 1 || size > MOST_SIZE || now < 0 || now > size) {
                return NONE;
            }
            sizes[count] = size;
            firstLevels[count] = now;
            wanted[count] = ANY;
            count++;
            return count - 1;
        }

        boolean want(int number, int level) {
            if (number < 0 || number >= count || level < ANY || level > sizes[number]) {
                return false;
            }
            wanted[number] = level;
            return true;
        }

        int stateCount() {
            int states = 1;
            for (int i = 0; i < count; i++) {
                states *= LEVELS;
            }
            return states;
        }

        int startState() {
            int state = 0;
            for (int i = 0; i < count; i++) {
                state += firstLevels[i] * DIGIT[i];
            }
            return state;
        }

        boolean isDone(int state) {
            readLevels(state);
            for (int i = 0; i < count; i++) {
                if (wanted[i] != ANY && wanted[i] != levels[i]) {
                    return false;
                }
            }
            return true;
        }

        void meetNext(int state, Search search) {
            readLevels(state);
            for (int to = 0; to < count; to++) {
                search.meet(state + roomIn(to) * DIGIT[to], state, codeOf(OUTSIDE, to));
            }
            for (int from = 0; from < count; from++) {
                search.meet(state - levels[from] * DIGIT[from], state, codeOf(from, OUTSIDE));
                // A jug poured into itself leads to the same state, which is met already.
                for (int to = 0; to < count; to++) {
                    int poured = Math.min(levels[from], roomIn(to));
                    search.meet(state + poured * (DIGIT[to] - DIGIT[from]), state, codeOf(from, to));
                }
            }
        }

        int firstTold(int code) {
            return (code >> 3) - 1;
        }

        int secondTold(int code, int stateBehind) {
            return (code & 7) - 1;
        }

        private static int codeOf(int from, int to) {
            return (from + 1) << 3 | (to + 1);
        }

        private int roomIn(int number) {
            return number < 0 || number >= count ? 0 : sizes[number] - levels[number];
        }

        private void readLevels(int state) {
            int rest = state;
            for (int i = 0; i < count; i++) {
                levels[i] = rest % LEVELS;
                rest /= LEVELS;
            }
        }
    }

    /** A state is the set of things on the far bank, and a bit above them when the boatman is there. */
    private static final class River extends Puzzle {
        private static final int MOST_THINGS = 8;
        private static final int SETS = 256;
        private static final int SET_MASK = 255;
        private static final int BOATMAN = 256;

        private final int[] thingOfLetter = new int[MOST_THINGS];
        private final int[] notWith = new int[MOST_THINGS];
        private int things;
        private int boat;

        void clear() {
            Arrays.fill(thingOfLetter, NONE);
            Arrays.fill(notWith, 0);
            things = 0;
            boat = 0;
        }

        boolean addThing(int unit) {
            int letter = unit - 'a';
            if (letter < 0 || letter >= MOST_THINGS || thingOfLetter[letter] != NONE) {
                return false;
            }
            thingOfLetter[letter] = things;
            things++;
            return true;
        }

        int thingOf(int unit) {
            int letter = unit - 'a';
            return letter < 0 || letter >= MOST_THINGS ? NONE : thingOfLetter[letter];
        }

        boolean keepApart(int one, int other) {
            if (one < 0 || one >= things || other < 0 || other >= things || one == other) {
                return false;
            }
            notWith[one] |= 1 << other;
            notWith[other] |= 1 << one;
            return true;
        }

        boolean setBoat(int unit) {
            if (unit < '1' || unit > '3') {
                return false;
            }
            boat = unit - '0';
            return true;
        }

        int stateCount() {
            return 2 * SETS;
        }

        int startState() {
            return 0;
        }

        boolean isDone(int state) {
            return (state & SET_MASK) == allThings();
        }

        void meetNext(int state, Search search) {
            int far = state & SET_MASK;
            boolean isFar = (state & BOATMAN) != 0;
            int bank = isFar ? far : allThings() & ~far;
            int otherSide = isFar ? 0 : BOATMAN;
            int taken = 0;
            for (int i = 0; i < SETS; i++) {
                if (Integer.bitCount(taken) <= boat && mayBeLeft(bank & ~taken)) {
                    search.meet(otherSide | (far ^ taken), state, taken);
                }
                if (taken == bank) {
                    return;
                }
                // The next greater number that has bits of the bank alone.
                taken = (taken - bank) & bank;
            }
        }

        int firstTold(int code) {
            return code;
        }

        int secondTold(int code, int stateBehind) {
            return stateBehind & SET_MASK;
        }

        private int allThings() {
            return (1 << things) - 1;
        }

        private boolean mayBeLeft(int set) {
            for (int i = 0; i < MOST_THINGS; i++) {
                if ((set >> i & 1) != 0 && (notWith[i] & set) != 0) {
                    return false;
                }
            }
            return true;
        }
    }

    private static final class RiverText {
        private static final int MOST_UNITS = 100;
        private static final int MOST_UNIT = 255;
        private static final int BLANK = 32;

        private final int[] units = new int[MOST_UNITS];
        private int count;

        boolean add(int unit) {
            if (unit < 0 || unit > MOST_UNIT || count >= MOST_UNITS) {
                return false;
            }
            units[count] = unit;
            count++;
            return true;
        }

        void forget() {
            count = 0;
        }

        /** The place of the first byte that may not be there, the end being one such; NONE when all is right. */
        int readInto(River river) {
            river.clear();
            int place = readThings(river);
            if (place == 0) {
                return place;
            }
            for (int i = 0; i < MOST_UNITS; i++) {
                if (unitAt(place) != BLANK) {
                    return place;
                }
                if (river.setBoat(unitAt(place + 1))) {
                    return place + 2 == count ? NONE : place + 2;
                }
                int first = river.thingOf(unitAt(place + 1));
                if (first == NONE) {
                    return place + 1;
                }
                if (!river.keepApart(first, river.thingOf(unitAt(place + 2)))) {
                    return place + 2;
                }
                place += 3;
            }
            return place;
        }

        private int readThings(River river) {
            for (int place = 0; place < MOST_UNITS; place++) {
                if (!river.addThing(unitAt(place))) {
                    return place;
                }
            }
            return MOST_UNITS;
        }

        private int unitAt(int place) {
            return place >= 0 && place < count ? units[place] : NONE;
        }
    }

    private static final class Tower {
        private static final int MOST_DISCS = 40;
        private static final int DISC = 0;
        private static final int FROM = 1;
        private static final int TO = 2;
        private static final int SUM_OF_FOUR_PEGS = 6;

        private final long[] fourPegMoves = new long[MOST_DISCS + 1];
        private final int[] leastOnes = new int[MOST_DISCS + 1];
        private int pegs = 3;
        private int discs;

        Tower() {
            for (int n = 1; n <= MOST_DISCS; n++) {
                fourPegMoves[n] = Long.MAX_VALUE;
                for (int k = 0; k < n; k++) {
                    long moves = 2 * fourPegMoves[k] + threePegMoves(n - k);
                    if (moves < fourPegMoves[n]) {
                        fourPegMoves[n] = moves;
                        leastOnes[n] = k;
                    }
                }
            }
        }

        boolean set(int newPegs, int newDiscs) {
            if (newPegs < 3 || newPegs > 4 || newDiscs < 0 || newDiscs > MOST_DISCS) {
                return false;
            }
            pegs = newPegs;
            discs = newDiscs;
            return true;
        }

        long moves() {
            return pegs == 3 ? threePegMoves(discs) : fourPegMoves[discs];
        }

        int tellMove(long k, int what) {
            if (k < 0 || k >= moves() || what < DISC || what > TO) {
                return NONE;
            }
            return pegs == 3 ? tellOfThree(k, what, 0, discs, 0, 1, 2) : tellOfFour(k, what);
        }

        private int tellOfFour(long k, int what) {
            long rest = k;
            int n = discs;
            int from = 0;
            int to = 1;
            for (int depth = 0; depth < MOST_DISCS && n > 0; depth++) {
                int least = leastOnes[n];
                int lesser = lesserFreePeg(from, to);
                long middle = rest - fourPegMoves[least];
                long behind = middle - threePegMoves(n - least);
                if (middle < 0) {
                    to = lesser;
                } else if (behind < 0) {
                    int greater = SUM_OF_FOUR_PEGS - from - to - lesser;
                    return tellOfThree(middle, what, least, n, from, to, greater);
                } else {
                    rest = behind;
                    from = lesser;
                }
                n = least;
            }
            return NONE;
        }

        /** Of the discs from lowDisc up to, but without, highDisc. */
        private static int tellOfThree(long k, int what, int lowDisc, int highDisc, int peg0, int peg1, int peg2) {
            long rest = k;
            int from = peg0;
            int to = peg1;
            int third = peg2;
            for (int disc = highDisc - 1; disc >= lowDisc; disc--) {
                long before = threePegMoves(disc - lowDisc);
                if (rest == before) {
                    return what == DISC ? disc : what == FROM ? from : to;
                }
                int oldThird = third;
                if (rest < before) {
                    third = to;
                    to = oldThird;
                } else {
                    rest -= before + 1;
                    third = from;
                    from = oldThird;
                }
            }
            return NONE;
        }

        private static long threePegMoves(int n) {
            return (1L << n) - 1;
        }

        private static int lesserFreePeg(int from, int to) {
            int peg = 0;
            for (int i = 0; i < 2; i++) {
                if (peg == from || peg == to) {
                    peg++;
                }
            }
            return peg;
        }
    }
}
