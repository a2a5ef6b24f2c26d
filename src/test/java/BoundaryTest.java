import java.util.function.Supplier;

/**
 * Each sentence of the document that names a boundary case, word for word, with a test of its own.
 * Promises 2 and 3 name none: what they answer at the bounds is looked at with promise 1. That
 * refused calls change nothing is RefusalTest's matter.
 */
public final class BoundaryTest {
    private static final int BAD = StrategyDesk.BAD;
    private static final int FULL = StrategyDesk.FULL;
    private static final int LEAST = Integer.MIN_VALUE;
    private static final int MOST = Integer.MAX_VALUE;
    private static final int[] NOT_A_NUMBER_OF_TEN = {-1, 10, 11, 31, 32, 41, LEAST, LEAST + 9, MOST};

    private static String sentence = "";

    public static void main(String[] args) {
        whatItIs();
        termsOfVariablesAndClauses();
        termsOfTheGame();
        termsOfClaims();
        promise1ANewObject();
        promise4Add();
        promise5Drop();
        promise6Clauses();
        promise7Play();
        promise8Undo();
        promise9Played();
        promise10Wins();
        promise11Best();
        promise12Reply();
        promise13Answer();
        promise14Idle();
        promise15Harmless();
        promise16Models();
        promise17Claim();
        promise18Gap();
        promise19Learn();
        promise20Claimed();
        Check.end();
    }

    private static void says(String words) {
        sentence = words;
    }

    private static void due(String call, Object got, Object due) {
        Check.same("\"" + sentence + "\": " + call, got, due);
    }

    /** A desk with clauses: yes and no of the first, yes and no of the second, and so on. */
    private static StrategyDesk desk(int variables, int adam, int... sets) {
        StrategyDesk x = new StrategyDesk(variables, adam);
        for (int i = 0; i < sets.length; i += 2) {
            x.add(sets[i], sets[i + 1]);
        }
        return x;
    }

    /** 0 is Adam's, 1 is Eve's, and both must be the same: Eve wins. */
    private static StrategyDesk copycat() {
        return desk(2, 0b01, 0b01, 0b10, 0b10, 0b01);
    }

    /** 0 is Eve's, 1 is Adam's, and both must be the same: Adam wins. */
    private static StrategyDesk guess() {
        return desk(2, 0b10, 0b01, 0b10, 0b10, 0b01);
    }

    /** All 24 clauses, no two alike, all ten variables. */
    private static StrategyDesk full(int left) {
        StrategyDesk x = new StrategyDesk(10, 0b1001001001);
        for (int k = 0; k < 24; k++) {
            if (k != left) {
                x.add(1 << k % 10 | 1 << k / 10, 2 << k % 9);
            }
        }
        return x;
    }

    private static void setAll(StrategyDesk x, int values) {
        for (int v = 0; v < x.variables(); v++) {
            x.play(values >> v & 1);
        }
    }

    private static String difference(Supplier<StrategyDesk> one, Supplier<StrategyDesk> other) {
        return State.of(one).differenceTo(State.of(other));
    }

    private static void whatItIs() {
        says("An object is used for at most 512 calls after it has been made");
        due("wins() as call 512", usedFor511().wins(), false);
        due("models() as call 512", usedFor511().models(), 512);
        due("add(1, 0) as call 512", usedFor511().add(1, 0), 1);
        due("drop(0) as call 512", usedFor511().drop(0), true);
        due("play(1) as call 512", usedFor511().play(1), 0);
        due("learn() as call 512", usedFor511().learn(), 0);
        due("claimed(9, 31) as call 512", usedFor511().claimed(9, 31), 0);
    }

    private static StrategyDesk usedFor511() {
        StrategyDesk x = new StrategyDesk(10, 0b0101010101);
        for (int i = 0; i < 85; i++) {
            x.add(1023, i);
            x.claim(9, -1);
            x.play(1);
            x.learn();
            x.undo();
            x.drop(0);
        }
        x.add(1, 0);
        return x;
    }

    private static void termsOfVariablesAndClauses() {
        says("VARIABLES have the numbers 0 .. n - 1, n from 1 to 10");
        for (int n = 1; n <= 10; n++) {
            lastVariableOf(n);
        }
        says("each belongs to EVE or to ADAM, at most five to Adam");
        StrategyDesk x = new StrategyDesk(10, 1023);
        for (int v = 0; v < 10; v++) {
            due("claim(" + v + ", 1), with ten asked for Adam", x.claim(v, 1), v >= 5);
        }
        says("it HOLDS for values of all variables (0 or 1) when a yes variable is 1 or a no variable"
                + " is 0");
        holdsForAllValues(0b0011, 0b1100);
        holdsForAllValues(0b1001, 0);
        holdsForAllValues(0, 0b0110);
        holdsForAllValues(0b1000, 0b0001);
        says("A clause with no variables never holds");
        holdsForAllValues(0, 0);
        for (int n = 1; n <= 10; n++) {
            due("models() of " + n, desk(n, 5, 0, 0).models(), 0);
        }
        says("one with a variable on both sides always does");
        holdsForAllValues(0b1000, 0b1000);
        holdsForAllValues(0b0011, 0b1110);
        for (int v = 0; v < 10; v++) {
            due("models() with " + v, desk(10, 5, 1 << v, 1 << v).models(), 1024);
        }
        numbersOfClauses();
    }

    private static void lastVariableOf(int n) {
        StrategyDesk x = new StrategyDesk(n, 0);
        due("add(" + (1 << n - 1) + ", 0) of " + n, x.add(1 << n - 1, 0), 0);
        due("add(0, " + (1 << n) + ") of " + n, x.add(0, 1 << n), BAD);
        due("reply(" + (n - 1) + ", 0) of " + n, x.reply(n - 1, 0), 1);
        due("reply(" + n + ", 0) of " + n, x.reply(n, 0), BAD);
        due("claim(" + (n - 1) + ", 1) of " + n, x.claim(n - 1, 1), true);
        due("claim(" + n + ", 1) of " + n, x.claim(n, 1), false);
        for (int v = 0; v < n; v++) {
            due("play(1) of " + n, x.play(1), v);
        }
        due("play(1) of " + n + " once more", x.play(1), BAD);
    }

    private static void holdsForAllValues(int yes, int no) {
        for (int values = 0; values < 16; values++) {
            StrategyDesk x = desk(4, 0b0101, yes, no);
            setAll(x, values);
            boolean holds = (yes & values) != 0 || (no & ~values) != 0;
            due("wins() with " + yes + ", " + no + " for " + values, x.wins(), holds);
        }
    }

    private static void numbersOfClauses() {
        says("Clauses, at most 24, have the numbers 0, 1, .. in the order in which they were added");
        StrategyDesk x = new StrategyDesk(10, 31);
        for (int k = 0; k < 24; k++) {
            due("add(1023, " + k + ")", x.add(1023, k), k);
        }
        due("clauses()", x.clauses(), 24);
        due("add(1023, 24)", x.add(1023, 24), FULL);
        says("when one goes, those behind it move up");
        for (int k = 0; k < 24; k++) {
            int gone = k;
            due("drop(" + k + ") of 24", difference(() -> dropped(gone), () -> full(gone)), "nothing");
        }
    }

    private static StrategyDesk dropped(int k) {
        StrategyDesk x = full(-1);
        x.drop(k);
        return x;
    }

    private static void termsOfTheGame() {
        says("the variables are set one after the other, 0 first, by the player to whom they belong,"
                + " who knows what was set before");
        due("wins(), Eve knowing 0", copycat().wins(), true);
        due("wins(), Adam knowing 0", guess().wins(), false);
        due("wins(), Eve knowing 8", desk(10, 1 << 8, 1 << 8, 1 << 9, 1 << 9, 1 << 8).wins(), true);
        due("wins(), Adam knowing 8", desk(10, 1 << 9, 1 << 8, 1 << 9, 1 << 9, 1 << 8).wins(), false);
        says("Eve WINS when all clauses hold in the end, Adam otherwise");
        due("wins(), no clauses, Adam sets all", new StrategyDesk(5, 31).wins(), true);
        StrategyDesk x = desk(2, 0, 0b01, 0, 0b10, 0);
        setAll(x, 0b01);
        due("wins(), one of two holds", x.wins(), false);
        x.undo();
        x.play(1);
        due("wins(), both hold", x.wins(), true);
        says("at first nothing is set");
        due("played()", new StrategyDesk(10, 31).played(), 0);
        due("undo()", new StrategyDesk(10, 31).undo(), false);
        due("play(1)", new StrategyDesk(10, 31).play(1), 0);
        says("the least value with which they still win; 0 when they win with none");
        bestMoves(0);
        bestMoves(1);
    }

    /** By who sets the only variable: with both values, 1 alone, 0 alone, none they win. */
    private static void bestMoves(int adam) {
        int[] always = {1, 1};
        int[] never = {0, 0};
        int[] byOne = adam == 0 ? new int[] {1, 0} : new int[] {0, 1};
        int[] byZero = adam == 0 ? new int[] {0, 1} : new int[] {1, 0};
        due("best() of " + adam + ", both win", desk(1, adam, adam == 0 ? always : never).best(), 0);
        due("best() of " + adam + ", 1 wins", desk(1, adam, byOne).best(), 1);
        due("best() of " + adam + ", 0 wins", desk(1, adam, byZero).best(), 0);
        due("best() of " + adam + ", none wins", desk(1, adam, adam == 0 ? never : always).best(), 0);
    }

    private static void termsOfClaims() {
        says("of Adam's variables before it, the first one's value counts 1, the second one's 2, the"
                + " third one's 4, and so on; bit i of the table, i being the sum, is the value that the"
                + " claim gives to the variable");
        int[] adams = {0, 2, 4, 6, 8};
        for (int before = 0; before <= 5; before++) {
            for (int i = 0; i < 1 << before; i++) {
                claimCounts(adams, before, i);
            }
        }
        says("At first all tables are 0");
        for (int v = 1; v < 10; v += 2) {
            due("gap() when " + v + " must be 1", desk(10, 0b0101010101, 1 << v, 0).gap(), 0);
            due("gap() when " + v + " must be 0", desk(10, 0b0101010101, 0, 1 << v).gap(), BAD);
            for (int i = 0; i < 32; i++) {
                due("claimed", new StrategyDesk(10, 0b0101010101).claimed(v, i), 0);
            }
        }
        says("The claims are a STRATEGY when all clauses hold for all values of Adam's variables");
        StrategyDesk x = copycat();
        x.claim(1, 0b10);
        due("gap() of a strategy", x.gap(), BAD);
        x.claim(1, 0b11);
        due("gap() of one that fails for 0", x.gap(), 0);
        x.claim(1, 0b00);
        due("gap() of one that fails for 1", x.gap(), 1);
    }

    /** Eve's variable behind so many of Adam's must be 1 when their sum is i: bit i alone says so. */
    private static void claimCounts(int[] adams, int before, int i) {
        int v = before == 0 ? 0 : adams[before - 1] + 1;
        int shift = before == 0 ? 1 : 0;
        int yes = 1 << v;
        int no = 0;
        for (int a = 0; a < before; a++) {
            yes |= (i >> a & 1) == 0 ? 1 << adams[a] : 0;
            no |= (i >> a & 1) == 1 ? 1 << adams[a] : 0;
        }
        StrategyDesk x = desk(10, 0b0101010101 << shift, yes, no);
        String which = " of variable " + v + ", sum " + i;
        due("gap()" + which + ", bits 0", x.gap(), i);
        due("claim()" + which, x.claim(v, 1 << i), true);
        due("gap()" + which + ", the bit 1", x.gap(), BAD);
        due("claimed()" + which, x.claimed(v, i), 1);
        x.claim(v, ~(1 << i));
        due("gap()" + which + ", the bit 0 alone", x.gap(), i);
        due("claimed()" + which + ", the bit 0 alone", x.claimed(v, i), 0);
    }

    private static void promise1ANewObject() {
        says("n is the nearest number of 1 .. 10 to variables");
        int[][] rows = {{LEAST, 1}, {LEAST + 3, 1}, {-7, 1}, {-1, 1}, {0, 1}, {1, 1}, {2, 2}, {3, 3},
            {4, 4}, {5, 5}, {6, 6}, {7, 7}, {8, 8}, {9, 9}, {10, 10}, {11, 10}, {32, 10}, {33, 10},
            {1 << 16, 10}, {MOST, 10}};
        for (int[] row : rows) {
            StrategyDesk x = new StrategyDesk(row[0], 0);
            due("variables() of " + row[0], x.variables(), row[1]);
            due("models() of " + row[0], x.models(), 1 << row[1]);
        }
        says("by its bits 0 to n - 1; others are not looked at");
        for (int n = 1; n <= 5; n++) {
            due("adams() of " + n + ", -1", new StrategyDesk(n, -1).adams(), (1 << n) - 1);
            due("adams() of " + n + ", 2^n", new StrategyDesk(n, 1 << n).adams(), 0);
            due("adams() of " + n + ", 2^(n-1)", new StrategyDesk(n, 1 << n - 1).adams(), 1 << n - 1);
        }
        due("adams() of 10, 2^10", new StrategyDesk(10, 1 << 10).adams(), 0);
        due("adams() of 10, 2^9", new StrategyDesk(10, 1 << 9).adams(), 1 << 9);
        due("adams() of 10, 2^31", new StrategyDesk(10, LEAST).adams(), 0);
        due("adams() of 0, 2", new StrategyDesk(0, 2).adams(), 0);
        due("adams() of 11, 2^10 + 2", new StrategyDesk(11, 1026).adams(), 2);
        says("the first five of them, if there are more");
        due("adams(), five asked", new StrategyDesk(10, 0b1111100000).adams(), 0b1111100000);
        due("adams(), six asked", new StrategyDesk(10, 0b1111110000).adams(), 0b0111110000);
        due("adams(), six of six", new StrategyDesk(6, 0b111111).adams(), 0b011111);
        due("adams(), seven asked", new StrategyDesk(10, 0b1101101101).adams(), 0b0001101101);
        due("adams(), ten asked", new StrategyDesk(10, 0b1111111111).adams(), 0b0000011111);
        says("No clauses.");
        due("clauses()", new StrategyDesk(10, 31).clauses(), 0);
        due("drop(0)", new StrategyDesk(10, 31).drop(0), false);
        due("idle(0)", new StrategyDesk(10, 31).idle(0), false);
        due("add(0, 0)", new StrategyDesk(10, 31).add(0, 0), 0);
    }

    private static void promise4Add() {
        says("Adds a clause (perhaps without variables, or one there already) and answers its number");
        StrategyDesk x = new StrategyDesk(2, 1);
        due("add(3, 0)", x.add(3, 0), 0);
        due("add(3, 0), there already", x.add(3, 0), 1);
        due("add(0, 0), without variables", x.add(0, 0), 2);
        due("add(0, 0), there already", x.add(0, 0), 3);
        x.drop(2);
        due("models(), one without variables left", x.models(), 0);
        x.drop(2);
        due("models(), none of them left", x.models(), 3);
        x.drop(0);
        due("models(), one of two alike left", x.models(), 3);
        says("BAD, first, when a set has a variable that there isn't (any other bit)");
        for (int n = 1; n <= 10; n++) {
            otherBits(n);
        }
        due("add(1024, 0) when full", full(-1).add(1024, 0), BAD);
        due("add(0, -1) when full", full(-1).add(0, -1), BAD);
        due("add(-2147483648, 0) when full", full(-1).add(LEAST, 0), BAD);
        says("FULL.");
        due("add(0, 0) when one is missing", full(0).add(0, 0), 23);
        due("add(0, 0) when full", full(-1).add(0, 0), FULL);
        due("add(1023, 1023) when full", full(-1).add(1023, 1023), FULL);
        StrategyDesk again = full(-1);
        again.drop(5);
        due("add(1, 0) when one has gone", again.add(1, 0), 23);
        due("add(1, 0) when full again", again.add(1, 0), FULL);
    }

    private static void otherBits(int n) {
        for (int bit = 0; bit < 32; bit++) {
            StrategyDesk x = new StrategyDesk(n, 0);
            boolean there = bit < n;
            due("add(2^" + bit + ", 0) of " + n, x.add(1 << bit, 0), there ? 0 : BAD);
            due("add(0, 2^" + bit + ") of " + n, x.add(0, 1 << bit), there ? 1 : BAD);
            due("clauses()", x.clauses(), there ? 2 : 0);
        }
    }

    private static void promise5Drop() {
        says("Takes clause k away; false when there is none.");
        for (int k : new int[] {-1, 0, 1, 23, 24, LEAST, MOST}) {
            due("drop(" + k + ") of none", new StrategyDesk(3, 2).drop(k), false);
        }
        for (int k : new int[] {-1, 24, 25, 32, LEAST, MOST}) {
            due("drop(" + k + ") of 24", full(-1).drop(k), false);
        }
        due("drop(0) of 24", full(-1).drop(0), true);
        due("drop(23) of 24", full(-1).drop(23), true);
        StrategyDesk x = full(-1);
        for (int left = 23; left >= 0; left--) {
            due("drop(" + (left + 1) + ")", x.drop(left + 1), false);
            due("drop(" + left + ")", x.drop(left), true);
            due("clauses()", x.clauses(), left);
        }
        due("drop(0) when all have gone", x.drop(0), false);
        due("models() when all have gone", x.models(), 1024);
    }

    private static void promise6Clauses() {
        says("How many clauses there are.");
        due("clauses() of none", new StrategyDesk(1, 1).clauses(), 0);
        due("clauses() of 24", full(-1).clauses(), 24);
        StrategyDesk x = full(-1);
        x.add(1, 1);
        due("clauses() after FULL", x.clauses(), 24);
    }

    private static void promise7Play() {
        says("Sets the next variable (whosever it is, to any value)");
        StrategyDesk eves = desk(2, 0, 0b01, 0);
        due("play(0), Eve losing by it", eves.play(0), 0);
        due("wins()", eves.wins(), false);
        StrategyDesk adams = desk(2, 3, 0b01, 0);
        due("play(1), Adam losing by it", adams.play(1), 0);
        due("wins()", adams.wins(), true);
        says("in the play (which clauses that come or go leave)");
        due("what add and drop left", difference(BoundaryTest::playedAmongClauses, () -> playedAfter()),
                "nothing");
        says("BAD (value is not 0 or 1, or all are set)");
        for (int value : new int[] {-1, 2, 3, 256, LEAST, LEAST + 1, MOST}) {
            due("play(" + value + ")", new StrategyDesk(3, 2).play(value), BAD);
        }
        for (int n = 1; n <= 10; n++) {
            StrategyDesk x = new StrategyDesk(n, 5);
            setAll(x, 0b0110110110);
            due("play(0), all set", x.play(0), BAD);
            due("play(1), all set", x.play(1), BAD);
            due("play(2), all set", x.play(2), BAD);
            due("undo()", x.undo(), true);
            due("play(1), one taken back", x.play(1), n - 1);
        }
    }

    private static StrategyDesk playedAmongClauses() {
        StrategyDesk x = new StrategyDesk(4, 0b0101);
        x.add(0, 0);
        x.play(1);
        x.add(0b0011, 0b0100);
        x.drop(0);
        x.play(0);
        x.add(0b1000, 0b0001);
        x.play(1);
        x.drop(0);
        return x;
    }

    private static StrategyDesk playedAfter() {
        StrategyDesk x = desk(4, 0b0101, 0b1000, 0b0001);
        x.play(1);
        x.play(0);
        x.play(1);
        return x;
    }

    private static void promise8Undo() {
        says("Takes the latest move of the play back; false when there is none.");
        due("undo() of a new object", new StrategyDesk(1, 1).undo(), false);
        StrategyDesk x = new StrategyDesk(10, 31);
        setAll(x, 1023);
        for (int left = 9; left >= 0; left--) {
            due("undo()", x.undo(), true);
            due("played()", x.played(), left);
        }
        due("undo() when all are taken back", x.undo(), false);
        due("what playing and taking back left",
                difference(BoundaryTest::takenBack, () -> new StrategyDesk(10, 31)), "nothing");
        StrategyDesk other = desk(10, 0, 0, 1);
        other.play(1);
        other.undo();
        other.play(0);
        due("wins() with 0 in the place of 1", other.wins(), true);
    }

    private static StrategyDesk takenBack() {
        StrategyDesk x = new StrategyDesk(10, 31);
        setAll(x, 1023);
        for (int v = 0; v < 10; v++) {
            x.undo();
        }
        return x;
    }

    private static void promise9Played() {
        says("How many variables are set in the play.");
        for (int n = 1; n <= 10; n++) {
            StrategyDesk x = new StrategyDesk(n, -1);
            due("played() of nothing", x.played(), 0);
            setAll(x, 0);
            due("played() of all", x.played(), n);
            x.play(0);
            due("played() after a refused move", x.played(), n);
        }
    }

    private static void promise10Wins() {
        says("Whether Eve wins in the position of the play.");
        due("wins() with nothing set", guess().wins(), false);
        for (int values = 0; values < 4; values++) {
            StrategyDesk x = guess();
            setAll(x, values);
            due("wins() with all set to " + values, x.wins(), values == 0 || values == 3);
        }
        StrategyDesk ten = desk(10, 31, 1023, 0);
        setAll(ten, 0);
        due("wins() with ten set to 0", ten.wins(), false);
        ten.undo();
        due("wins() with the last left to Eve", ten.wins(), true);
        ten.play(1);
        due("wins() with the last set to 1", ten.wins(), true);
    }

    private static void promise11Best() {
        says("0 also when they lose with both");
        StrategyDesk eve = desk(2, 0, 0, 0);
        due("best(), Eve losing", eve.best(), 0);
        eve.play(1);
        due("best(), Eve losing after 1", eve.best(), 0);
        StrategyDesk adam = desk(2, 3);
        due("best(), Adam losing", adam.best(), 0);
        adam.play(1);
        due("best(), Adam losing after 1", adam.best(), 0);
        says("in the position of the play; BAD when all are set");
        for (int n = 1; n <= 10; n++) {
            StrategyDesk x = desk(n, -1, 1 << n - 1, 0);
            for (int v = 0; v < n - 1; v++) {
                x.play(1);
            }
            due("best() of the last of " + n, x.best(), n > 5 ? 1 : 0);
            x.play(1);
            due("best() with all set of " + n, x.best(), BAD);
            x.undo();
            due("best() with the last taken back", x.best(), n > 5 ? 1 : 0);
        }
    }

    private static void promise12Reply() {
        says("BAD when there is no such variable");
        StrategyDesk ten = desk(10, 31, 1 << 9, 0);
        for (int v : NOT_A_NUMBER_OF_TEN) {
            due("reply(" + v + ", 1023)", ten.reply(v, 1023), BAD);
        }
        due("reply(0, 1)", ten.reply(0, 1), 1);
        due("reply(9, 0)", ten.reply(9, 0), 1);
        due("reply(1, 0) of one", new StrategyDesk(1, 1).reply(1, 0), BAD);
        says("of one of Adam's it is what is told; other bits are not looked at; the play is not"
                + " looked at");
        for (int v = 0; v < 5; v++) {
            due("reply(" + v + "), its bit alone", ten.reply(v, 1 << v), 1);
            due("reply(" + v + "), all bits but its", ten.reply(v, ~(1 << v)), 0);
        }
        for (int v = 5; v < 10; v++) {
            due("reply(" + v + "), all bits", ten.reply(v, -1), v == 9 ? 1 : 0);
            due("reply(" + v + "), no bits", ten.reply(v, 0), v == 9 ? 1 : 0);
        }
        due("reply(1, 1) of what Eve copies", copycat().reply(1, 1), 1);
        due("reply(1, ~1) of what Eve copies", copycat().reply(1, ~1), 0);
        StrategyDesk played = copycat();
        setAll(played, 0b10);
        due("reply(0, 1) with 0 set to 0", played.reply(0, 1), 1);
        due("reply(1, 1) with 1 set to 1 against 0", played.reply(1, 1), 1);
        due("reply(1, 0) with 1 set to 1 against 0", played.reply(1, 0), 0);
    }

    private static void promise13Answer() {
        says("The same with the players changed: Adam makes his best moves, and Eve's variables have"
                + " the values told.");
        StrategyDesk ten = desk(10, 0b1111100000, 0, 1 << 9);
        for (int v : NOT_A_NUMBER_OF_TEN) {
            due("answer(" + v + ", 1023)", ten.answer(v, 1023), BAD);
        }
        due("answer(1, 0) of one", new StrategyDesk(1, 0).answer(1, 0), BAD);
        for (int v = 0; v < 5; v++) {
            due("answer(" + v + "), its bit alone", ten.answer(v, 1 << v), 1);
            due("answer(" + v + "), all bits but its", ten.answer(v, ~(1 << v)), 0);
        }
        for (int v = 5; v < 10; v++) {
            due("answer(" + v + "), all bits", ten.answer(v, -1), v == 9 ? 1 : 0);
            due("answer(" + v + "), no bits", ten.answer(v, 0), v == 9 ? 1 : 0);
        }
        due("answer(1, 0) of what Adam differs in", guess().answer(1, 0), 1);
        due("answer(1, ~0) of what Adam differs in", guess().answer(1, ~0), 0);
        due("answer(1, ~1) of what Adam differs in", guess().answer(1, ~1), 1);
        StrategyDesk played = guess();
        setAll(played, 0b11);
        due("answer(0, 0) with 0 set to 1", played.answer(0, 0), 0);
        due("answer(1, 0) with both set to 1", played.answer(1, 0), 1);
        due("answer(1, 1) with both set to 1", played.answer(1, 1), 0);
        due("answer(0, 1), Adam losing with both", copycat().answer(0, 1), 0);
    }

    private static void promise14Idle() {
        says("Whether without clause k the same player would win from the beginning");
        due("idle(0), the only one, Eve winning", desk(1, 0, 1, 0).idle(0), true);
        due("idle(0), the only one, Adam winning", desk(1, 1, 1, 0).idle(0), false);
        due("idle(0), Adam winning by the other too", desk(1, 1, 1, 0, 0, 1).idle(0), true);
        StrategyDesk last = new StrategyDesk(1, 0);
        for (int k = 0; k < 23; k++) {
            last.add(1, 0);
        }
        last.add(0, 1);
        due("idle(23), the last of 24", last.idle(23), false);
        due("idle(22), the one before it", last.idle(22), true);
        StrategyDesk played = desk(2, 0b10, 0, 0b10);
        setAll(played, 0);
        due("idle(0) with a play in which Eve has won", played.idle(0), false);
        says("false when there is no such clause");
        for (int k : new int[] {-1, 0, 1, 24, LEAST, MOST}) {
            due("idle(" + k + ") of none", new StrategyDesk(2, 1).idle(k), false);
        }
        for (int k : new int[] {-1, 2, 3, 24, 32, 33, LEAST, MOST}) {
            due("idle(" + k + ") of two", copycat().idle(k), false);
        }
        for (int k : new int[] {-1, 24, 25, 32, LEAST, MOST}) {
            due("idle(" + k + ") of 24", full(-1).idle(k), false);
        }
        StrategyDesk gone = copycat();
        gone.drop(0);
        due("idle(1) when one of two has gone", gone.idle(1), false);
    }

    private static void promise15Harmless() {
        says("Whether with one more clause (also when 24 are there; none is added) the same player"
                + " would win from the beginning");
        StrategyDesk x = desk(1, 0);
        for (int k = 0; k < 24; k++) {
            x.add(1, 0);
        }
        due("harmless(1, 0) with 24", x.harmless(1, 0), true);
        due("harmless(0, 1) with 24", x.harmless(0, 1), false);
        due("harmless(0, 0) with 24", x.harmless(0, 0), false);
        due("clauses() afterwards", x.clauses(), 24);
        due("models() afterwards", x.models(), 1);
        due("harmless(0, 0) without clauses", new StrategyDesk(1, 1).harmless(0, 0), false);
        due("harmless(1, 1) without clauses", new StrategyDesk(1, 1).harmless(1, 1), true);
        due("what harmless(1, 0) and harmless(1, 1) added",
                difference(BoundaryTest::askedForHarm, BoundaryTest::copycat), "nothing");
        StrategyDesk played = desk(2, 0b10);
        setAll(played, 0);
        due("harmless(0, 2) with a play in which 1 is 0", played.harmless(0, 0b10), false);
        says("false when a set has a variable that there isn't");
        for (int n = 1; n <= 10; n++) {
            for (int bit = 0; bit < 32; bit++) {
                boolean there = bit < n;
                StrategyDesk lost = desk(n, 0, 0, 0);
                due("harmless(2^" + bit + ", 0) of " + n, lost.harmless(1 << bit, 0), there);
                due("harmless(0, 2^" + bit + ") of " + n, lost.harmless(0, 1 << bit), there);
            }
        }
        due("harmless(1024, 1024)", desk(10, 0).harmless(1024, 1024), false);
        due("harmless(-1, -1)", desk(10, 0).harmless(-1, -1), false);
    }

    private static StrategyDesk askedForHarm() {
        StrategyDesk x = copycat();
        x.harmless(1, 0);
        x.harmless(1, 1);
        return x;
    }

    private static void promise16Models() {
        says("For how many values of all variables (of the 2^n; all, without clauses) all clauses"
                + " hold.");
        for (int n = 1; n <= 10; n++) {
            int all = (1 << n) - 1;
            due("models() of " + n, new StrategyDesk(n, -1).models(), all + 1);
            due("models() of " + n + ", not all 0", desk(n, -1, all, 0).models(), all);
            due("models() of " + n + ", not all 1", desk(n, -1, 0, all).models(), all);
            due("models() of " + n + ", the last 1", desk(n, -1, 1 << n - 1, 0).models(), 1 << n - 1);
            due("models() of " + n + ", none", desk(n, -1, 1, 0, 0, 1).models(), 0);
        }
    }

    private static void promise17Claim() {
        says("The claim for a variable becomes table (any int; claims stay when clauses change)");
        for (int table : new int[] {0, 1, -1, LEAST, MOST, 0x5A96C3E1}) {
            StrategyDesk x = new StrategyDesk(10, 31);
            due("claim(9, " + table + ")", x.claim(9, table), true);
            due("add(1, 2)", x.add(1, 2), 0);
            due("drop(0)", x.drop(0), true);
            for (int i = 0; i < 32; i++) {
                due("claimed(9, " + i + ") of " + table, x.claimed(9, i), table >>> i & 1);
                due("claimed(8, " + i + ")", x.claimed(8, i), 0);
            }
        }
        StrategyDesk x = copycat();
        x.claim(1, 0b11);
        x.claim(1, 0b10);
        due("gap() by the later of two claims", x.gap(), BAD);
        says("false when it isn't one of Eve's");
        for (int v : NOT_A_NUMBER_OF_TEN) {
            due("claim(" + v + ", -1)", new StrategyDesk(10, 0).claim(v, -1), false);
        }
        for (int v = 0; v < 10; v++) {
            boolean eves = v % 2 == 0;
            due("claim(" + v + ", -1)", new StrategyDesk(10, 0b1010101010).claim(v, -1), eves);
        }
        due("claim(5, 0), the sixth asked for Adam", new StrategyDesk(6, 63).claim(5, 0), true);
    }

    private static void promise18Gap() {
        says("The least sum, as above but of all of Adam's variables, for which some clause does not"
                + " hold with the claims");
        for (int sum = 0; sum < 32; sum++) {
            StrategyDesk x = desk(10, 0b1010101010, 1, 0);
            x.claim(0, 1);
            x.add(spread(~sum & 31), spread(sum));
            due("gap() of " + sum, x.gap(), sum);
            x.add(spread(0), spread(31));
            due("gap() of " + sum + " and 31", x.gap(), sum);
            x.add(spread(31), spread(0));
            due("gap() of " + sum + " and 31 and 0", x.gap(), 0);
        }
        says("BAD when there is none: they are a strategy");
        due("gap() without clauses", new StrategyDesk(10, -1).gap(), BAD);
        due("gap() of clauses that always hold", desk(10, -1, 1, 1, 512, 512).gap(), BAD);
        due("gap() of what holds by 0", desk(10, 31, 0, 1 << 9).gap(), BAD);
        due("gap() of Adam's alone", desk(3, 7).gap(), BAD);
        due("gap() of Adam's alone, 7", desk(3, 7, 0, 7).gap(), 7);
        says("without variables of Adam the one sum is 0");
        StrategyDesk alone = desk(10, 0, 1 << 9, 0);
        due("gap() without Adam", alone.gap(), 0);
        alone.claim(9, ~1);
        due("gap() without Adam, bit 0 not set", alone.gap(), 0);
        alone.claim(9, 1);
        due("gap() without Adam, bit 0 set", alone.gap(), BAD);
    }

    /** Bit a of a sum as the value of variable 2a + 1. */
    private static int spread(int sum) {
        int values = 0;
        for (int a = 0; a < 5; a++) {
            values |= (sum >> a & 1) << 2 * a + 1;
        }
        return values;
    }

    private static void promise19Learn() {
        says("Makes the claims (all of them) those of Eve's best moves, in the positions that they"
                + " lead to");
        StrategyDesk x = desk(10, 0b0101010101);
        for (int v = 1; v < 10; v += 2) {
            x.claim(v, -1);
        }
        due("learn() without clauses", x.learn(), BAD);
        for (int v = 1; v < 10; v += 2) {
            for (int i = 0; i < 32; i++) {
                due("claimed(" + v + ", " + i + ") without clauses", x.claimed(v, i), 0);
            }
        }
        learnSum31();
        claimsAreRepliesToAll();
        due("what learn() made of -1, Adam winning, beside the claims told",
                difference(() -> lost(true), () -> lost(false)), "nothing");
        says("answers gap() of them (a sum, if Adam wins)");
        due("learn(), Eve winning", copycat().learn(), BAD);
        due("learn(), Adam winning by 1", guess().learn(), 1);
        due("learn(), Adam winning by all", desk(10, 31, 0, 0).learn(), 0);
        due("learn(), Adam winning by 31", desk(6, 31, 0, 31).learn(), 31);
        due("learn(), no Adam, Eve winning", desk(3, 0, 7, 0).learn(), BAD);
        due("learn(), no Adam, Eve losing", desk(3, 0, 1, 0, 0, 1).learn(), 0);
        due("learn(), no Eve, Adam winning", desk(3, 7, 3, 0).learn(), 0);
        due("learn(), no Eve, Adam losing", desk(3, 7, 3, 3).learn(), BAD);
    }

    /** Eve must set 1 for the last of 32 sums alone. */
    private static void learnSum31() {
        StrategyDesk x = desk(6, 31, 1 << 5, 31);
        x.claim(5, -1);
        due("learn()", x.learn(), BAD);
        for (int i = 0; i < 32; i++) {
            due("claimed(5, " + i + ")", x.claimed(5, i), i == 31 ? 1 : 0);
        }
    }

    /** Where Adam has thrown his win away, and where Eve has lost, too. */
    private static void claimsAreRepliesToAll() {
        StrategyDesk x = desk(5, 0b01010, 0b00110, 0, 0b10001, 0b01000, 0b01000, 0b10000, 0, 0b00001);
        x.claim(0, -1);
        x.claim(2, -1);
        x.claim(4, -1);
        x.learn();
        for (int sum = 0; sum < 4; sum++) {
            int adam = (sum & 1) << 1 | (sum >> 1) << 3;
            due("claimed(0, 0)", x.claimed(0, 0), x.reply(0, adam));
            due("claimed(2, " + (sum & 1) + ")", x.claimed(2, sum & 1), x.reply(2, adam));
            due("claimed(4, " + sum + ")", x.claimed(4, sum), x.reply(4, adam));
        }
        due("reply(2, 0), which must be 1", x.reply(2, 0), 1);
        due("reply(2, 2), which need not", x.reply(2, 2), 0);
        due("reply(4, 8), which must be 1", x.reply(4, 8), 1);
        due("reply(4, 0), which must be 0", x.reply(4, 0), 0);
    }

    /** 1 is Adam's: Eve loses by his 0, whatever she does; after his 1 she must set 2 if not 0. */
    private static StrategyDesk lost(boolean learned) {
        StrategyDesk x = desk(3, 0b010, 0b010, 0, 0b101, 0);
        x.play(1);
        x.play(1);
        x.claim(0, learned ? -1 : 0);
        x.claim(2, learned ? -1 : 0b10);
        if (learned) {
            x.learn();
        }
        return x;
    }

    private static void promise20Claimed() {
        says("bit i of its table, cut to the sums that there are (a bit is 0 beyond them)");
        for (int before = 0; before <= 5; before++) {
            StrategyDesk x = new StrategyDesk(before + 1, (1 << before) - 1);
            x.claim(before, -1);
            for (int i = 0; i < 32; i++) {
                int bit = i < 1 << before ? 1 : 0;
                due("claimed(" + before + ", " + i + ") of -1", x.claimed(before, i), bit);
            }
        }
        StrategyDesk early = new StrategyDesk(3, 0b110);
        early.claim(0, -1);
        due("claimed(0, 0), Adam's behind it", early.claimed(0, 0), 1);
        due("claimed(0, 1), Adam's behind it", early.claimed(0, 1), 0);
        says("0 when it isn't one of Eve's or i is not 0 .. 31");
        StrategyDesk x = new StrategyDesk(10, 31);
        for (int v = 5; v < 10; v++) {
            x.claim(v, -1);
        }
        for (int i : new int[] {-1, -31, -32, 32, 33, 63, 64, LEAST, LEAST + 31, MOST}) {
            due("claimed(9, " + i + ")", x.claimed(9, i), 0);
        }
        for (int v : NOT_A_NUMBER_OF_TEN) {
            due("claimed(" + v + ", 0)", x.claimed(v, 0), 0);
        }
        for (int v = 0; v < 5; v++) {
            due("claimed(" + v + ", 0)", x.claimed(v, 0), 0);
        }
        due("claimed(9, 31)", x.claimed(9, 31), 1);
        due("claimed(5, 0)", x.claimed(5, 0), 1);
    }
}
