/**
 * Formulas with variables of two players: who wins when each sets theirs in turn, by which moves,
 * which clauses matter, and whether a strategy that somebody claims is one.
 *
 * <p>A set of variables, and values of variables, are both an int: bit v stands for variable v.
 */
public final class StrategyDesk {
    public static final int BAD = -1;
    public static final int FULL = -2;

    private static final int MOST_VARIABLES = 10;
    private static final int MOST_ADAMS = 5;
    private static final int MOST_CLAUSES = 24;

    private final int size;
    private final int adamSet;
    private final int eveSet;
    private final Game game;

    private final int[] yesSets;
    private final int[] noSets;
    private int clauseCount;

    private int playDepth;
    private int playValues;

    private final int[] tables;

    public StrategyDesk(int variables, int adam) {
        size = Math.max(1, Math.min(MOST_VARIABLES, variables));
        int all = (1 << size) - 1;
        adamSet = firstOf(adam & all, MOST_ADAMS);
        eveSet = all & ~adamSet;
        game = new Game(size, adamSet);
        yesSets = new int[MOST_CLAUSES];
        noSets = new int[MOST_CLAUSES];
        tables = new int[size];
    }

    public int variables() {
        return size;
    }

    public int adams() {
        return adamSet;
    }

    public int add(int yes, int no) {
        if (!areSets(yes, no)) {
            return BAD;
        }
        if (clauseCount >= MOST_CLAUSES) {
            return FULL;
        }
        yesSets[clauseCount] = yes;
        noSets[clauseCount] = no;
        clauseCount++;
        game.change(yes, no, 1);
        return clauseCount - 1;
    }

    public boolean drop(int k) {
        if (!isClause(k)) {
            return false;
        }
        game.change(yesSets[k], noSets[k], -1);
        clauseCount--;
        for (int i = k; i < clauseCount; i++) {
            yesSets[i] = yesSets[i + 1];
            noSets[i] = noSets[i + 1];
        }
        return true;
    }

    public int clauses() {
        return clauseCount;
    }

    public int play(int value) {
        if ((value != 0 && value != 1) || playDepth >= size) {
            return BAD;
        }
        playValues |= value << playDepth;
        playDepth++;
        return playDepth - 1;
    }

    public boolean undo() {
        if (playDepth <= 0) {
            return false;
        }
        playDepth--;
        // play() only ever sets bits, so the one that is taken back must not stay behind.
        playValues &= ~(1 << playDepth);
        return true;
    }

    public int played() {
        return playDepth;
    }

    public boolean wins() {
        return game.eveWinsAt(playDepth, playValues);
    }

    public int best() {
        return playDepth >= size ? BAD : game.bestMove(playDepth, playValues);
    }

    public int reply(int v, int adam) {
        return isVariable(v) ? bit(valuesWithBest(eveSet, adam), v) : BAD;
    }

    public int answer(int v, int eve) {
        return isVariable(v) ? bit(valuesWithBest(adamSet, eve), v) : BAD;
    }

    public boolean idle(int k) {
        return isClause(k) && leavesWinner(yesSets[k], noSets[k], -1);
    }

    public boolean harmless(int yes, int no) {
        return areSets(yes, no) && leavesWinner(yes, no, 1);
    }

    public int models() {
        return game.countModels();
    }

    public boolean claim(int v, int table) {
        if (!isEves(v)) {
            return false;
        }
        tables[v] = table;
        return true;
    }

    public int gap() {
        int sums = sumsBefore(size);
        for (int sum = 0; sum < sums; sum++) {
            if (!game.eveWinsAt(size, valuesWithClaims(sum))) {
                return sum;
            }
        }
        return BAD;
    }

    public int learn() {
        for (int v = 0; v < size; v++) {
            tables[v] = 0;
        }
        int sums = sumsBefore(size);
        for (int sum = 0; sum < sums; sum++) {
            claimValues(sum, valuesWithBest(eveSet, adamValues(sum)));
        }
        return gap();
    }

    public int claimed(int v, int i) {
        if (!isEves(v) || i < 0 || i >= sumsBefore(v)) {
            return 0;
        }
        return bit(tables[v], i);
    }

    private boolean isVariable(int v) {
        return v >= 0 && v < size;
    }

    private boolean isEves(int v) {
        return isVariable(v) && bit(eveSet, v) == 1;
    }

    private boolean isClause(int k) {
        return k >= 0 && k < clauseCount;
    }

    private boolean areSets(int yes, int no) {
        return ((yes | no) >>> size) == 0;
    }

    /** Whether the same player wins from the beginning after a clause comes (step 1) or goes (-1). */
    private boolean leavesWinner(int yes, int no, int step) {
        boolean before = game.eveWinsAt(0, 0);
        game.change(yes, no, step);
        boolean after = game.eveWinsAt(0, 0);
        game.change(yes, no, -step);
        return before == after;
    }

    /** The values in the end when those in movers are set by best moves and the others as told. */
    private int valuesWithBest(int movers, int told) {
        int values = 0;
        for (int v = 0; v < size; v++) {
            int value = bit(movers, v) == 1 ? game.bestMove(v, values) : bit(told, v);
            values |= value << v;
        }
        return values;
    }

    private int valuesWithClaims(int sum) {
        int values = adamValues(sum);
        for (int v = 0; v < size; v++) {
            if (isEves(v)) {
                values |= bit(tables[v], sumBefore(v, sum)) << v;
            }
        }
        return values;
    }

    private void claimValues(int sum, int values) {
        for (int v = 0; v < size; v++) {
            if (isEves(v)) {
                tables[v] |= bit(values, v) << sumBefore(v, sum);
            }
        }
    }

    private int adamValues(int sum) {
        int values = 0;
        int seen = 0;
        for (int v = 0; v < size; v++) {
            if (bit(adamSet, v) == 1) {
                values |= bit(sum, seen) << v;
                seen++;
            }
        }
        return values;
    }

    /** How many sums the values of Adam's variables before v can have: at most 2^5. */
    private int sumsBefore(int v) {
        return 1 << Integer.bitCount(adamSet & ((1 << v) - 1));
    }

    /** Adam's earlier variables count less, so those before v are the low bits of a sum of all. */
    private int sumBefore(int v, int sum) {
        return sum & (sumsBefore(v) - 1);
    }

    private static int bit(int bits, int i) {
        return (bits >>> i) & 1;
    }

    private static int firstOf(int set, int most) {
        int first = 0;
        int taken = 0;
        for (int v = 0; v < MOST_VARIABLES && taken < most; v++) {
            if (bit(set, v) == 1) {
                first |= 1 << v;
                taken++;
            }
        }
        return first;
    }

    /**
     * Who wins in every position. All positions are judged anew whenever a clause comes or goes, in
     * rows made once, so that no call makes an object.
     */
    private static final class Game {
        private final int size;
        private final int adamSet;

        /** By the values of all variables: how many clauses do not hold. */
        private final int[] broken;

        /** By 2^depth + values, for the position in which the first depth variables are set. */
        private final boolean[] eveWins;

        Game(int size, int adamSet) {
            this.size = size;
            this.adamSet = adamSet;
            broken = new int[1 << size];
            eveWins = new boolean[2 << size];
            judgeAll();
        }

        boolean eveWinsAt(int depth, int values) {
            return eveWins[(1 << depth) + values];
        }

        /** The best move of the player to whom variable depth belongs; depth is less than size. */
        int bestMove(int depth, int values) {
            boolean evesMove = bit(adamSet, depth) == 0;
            boolean zeroWins = eveWinsAt(depth + 1, values) == evesMove;
            boolean oneWins = eveWinsAt(depth + 1, values | (1 << depth)) == evesMove;
            return !zeroWins && oneWins ? 1 : 0;
        }

        int countModels() {
            int models = 0;
            for (int values = 0; values < broken.length; values++) {
                if (broken[values] == 0) {
                    models++;
                }
            }
            return models;
        }

        /** Counts one clause in (step 1) or out (step -1). */
        void change(int yes, int no, int step) {
            for (int values = 0; values < broken.length; values++) {
                if ((values & yes) == 0 && (values & no) == no) {
                    broken[values] += step;
                }
            }
            judgeAll();
        }

        private void judgeAll() {
            for (int values = 0; values < broken.length; values++) {
                eveWins[broken.length + values] = broken[values] == 0;
            }
            for (int depth = size - 1; depth >= 0; depth--) {
                judgeDepth(depth);
            }
        }

        private void judgeDepth(int depth) {
            boolean evesMove = bit(adamSet, depth) == 0;
            int positions = 1 << depth;
            for (int values = 0; values < positions; values++) {
                boolean withZero = eveWinsAt(depth + 1, values);
                boolean withOne = eveWinsAt(depth + 1, values | positions);
                eveWins[positions + values] =
                        evesMove ? withZero || withOne : withZero && withOne;
            }
        }
    }
}
