/** Each promise of the document by hand: ordinary inputs, the edges it names, wrong inputs. */
public final class PromiseTest {
    private static final int BAD = StrategyDesk.BAD;
    private static final int FULL = StrategyDesk.FULL;
    private static final int LEAST = Integer.MIN_VALUE;
    private static final int MOST = Integer.MAX_VALUE;

    public static void main(String[] args) {
        promise1ANewObject();
        promise2Variables();
        promise3Adams();
        promise4Add();
        promise5Drop();
        promise6Clauses();
        promise7Play();
        promise8Undo();
        promise9Played();
        promise10Wins();
        promise11Best();
        promise12Reply();
        promise13Answer();
        promise14Idle();
        promise15Harmless();
        promise16Models();
        promise17Claim();
        promise18Gap();
        promise19Learn();
        promise20Claimed();
        Check.end();
    }

    /** Variable 0 is Adam's, 1 is Eve's; the clauses ask that both be the same. */
    private static StrategyDesk copycat() {
        StrategyDesk x = new StrategyDesk(2, 1);
        x.add(1, 2);
        x.add(2, 1);
        return x;
    }

    /** The same clauses, but Eve sets variable 0 first and Adam sets 1: Adam wins. */
    private static StrategyDesk reversed() {
        StrategyDesk x = new StrategyDesk(2, 2);
        x.add(1, 2);
        x.add(2, 1);
        return x;
    }

    private static void promise1ANewObject() {
        StrategyDesk x = new StrategyDesk(3, 2);
        Check.same("1: clauses()", x.clauses(), 0);
        Check.same("1: played()", x.played(), 0);
        Check.same("1: wins()", x.wins(), true);
        Check.same("1: models()", x.models(), 8);
        Check.same("1: drop(0)", x.drop(0), false);
        Check.same("1: undo()", x.undo(), false);
        Check.same("1: gap()", x.gap(), BAD);
        Check.same("1: claimed(0, 0)", x.claimed(0, 0), 0);
        Check.same("1: claimed(2, 1)", x.claimed(2, 1), 0);
    }

    private static void promise2Variables() {
        int[] asked = {LEAST, -1, 0, 1, 2, 9, 10, 11, MOST};
        int[] due = {1, 1, 1, 1, 2, 9, 10, 10, 10};
        for (int i = 0; i < asked.length; i++) {
            Check.same("2: variables() of " + asked[i],
                    new StrategyDesk(asked[i], 0).variables(), due[i]);
        }
    }

    private static void promise3Adams() {
        int[][] rows = {
            {4, 0b1010, 0b1010}, {4, 0, 0}, {4, 0b11111010, 0b1010}, {3, -1, 0b111},
            {5, 0b11111, 0b11111}, {6, 0b111111, 0b11111}, {6, 0b111110, 0b111110},
            {10, -1, 0b11111}, {10, 0b1111110000, 0b111110000}, {10, 0b1010101010, 0b1010101010},
            {10, 0b1110101011, 0b0010101011}, {10, LEAST, 0}, {-3, 3, 1}, {99, 1024, 0},
        };
        for (int[] row : rows) {
            Check.same("3: adams() of " + row[0] + ", " + row[1],
                    new StrategyDesk(row[0], row[1]).adams(), row[2]);
        }
    }

    private static void promise4Add() {
        StrategyDesk x = new StrategyDesk(3, 2);
        Check.same("4: add(1, 4)", x.add(1, 4), 0);
        Check.same("4: the same again", x.add(1, 4), 1);
        Check.same("4: a variable on both sides", x.add(7, 7), 2);
        int[][] wrong = {{8, 0}, {0, 8}, {9, 1}, {-1, 0}, {0, LEAST}, {1024, 1024}, {0, -8}};
        for (int[] row : wrong) {
            Check.same("4: add(" + row[0] + ", " + row[1] + ")", x.add(row[0], row[1]), BAD);
        }
        Check.same("4: clauses() after refusals", x.clauses(), 3);
        Check.same("4: models() after refusals", x.models(), 6);
        Check.same("4: add(0, 0)", x.add(0, 0), 3);
        Check.same("4: models() with an empty clause", x.models(), 0);
        for (int k = 4; k < 24; k++) {
            Check.same("4: add(7, 0)", x.add(7, 0), k);
        }
        Check.same("4: a 25th", x.add(7, 0), FULL);
        Check.same("4: BAD comes before FULL", x.add(8, 0), BAD);
        Check.same("4: clauses() when full", x.clauses(), 24);
        Check.same("4: drop(3)", x.drop(3), true);
        Check.same("4: models() without the empty clause", x.models(), 5);
        Check.same("4: room again", x.add(7, 0), 23);
        StrategyDesk ten = new StrategyDesk(10, 0);
        Check.same("4: add(1023, 1023)", ten.add(1023, 1023), 0);
        Check.same("4: add(1024, 0)", ten.add(1024, 0), BAD);
    }

    private static void promise5Drop() {
        StrategyDesk x = new StrategyDesk(3, 0);
        x.add(1, 0);
        x.add(2, 0);
        x.add(6, 0);
        int[] wrong = {-1, 3, LEAST, MOST, 24};
        for (int k : wrong) {
            Check.same("5: drop(" + k + ")", x.drop(k), false);
        }
        Check.same("5: clauses() after refusals", x.clauses(), 3);
        Check.same("5: models() of all three", x.models(), 2);
        Check.same("5: drop(0)", x.drop(0), true);
        Check.same("5: models() of the last two", x.models(), 4);
        Check.same("5: those behind move up", x.drop(0), true);
        Check.same("5: models() of the last", x.models(), 6);
        Check.same("5: drop(1)", x.drop(1), false);
        Check.same("5: drop(0), the last", x.drop(0), true);
        Check.same("5: models() of none", x.models(), 8);
        Check.same("5: drop(0), none left", x.drop(0), false);
        dropMovesBothSetsUp();
        dropOneOfTwoAlike();
    }

    private static void dropMovesBothSetsUp() {
        StrategyDesk x = new StrategyDesk(3, 0);
        x.add(0, 1);
        x.add(0, 6);
        x.add(1, 7);
        x.drop(0);
        x.drop(1);
        Check.same("5: models() of the middle one", x.models(), 6);
        x.drop(0);
        Check.same("5: models() of none, by no variables", x.models(), 8);
    }

    private static void dropOneOfTwoAlike() {
        StrategyDesk x = new StrategyDesk(2, 0);
        x.add(3, 0);
        x.add(3, 0);
        Check.same("5: drop(1) of two alike", x.drop(1), true);
        Check.same("5: the other one stays", x.models(), 3);
    }

    private static void promise6Clauses() {
        StrategyDesk x = new StrategyDesk(2, 0);
        Check.same("6: clauses() of none", x.clauses(), 0);
        x.add(1, 0);
        x.add(1, 0);
        Check.same("6: clauses() of two alike", x.clauses(), 2);
        x.drop(1);
        Check.same("6: clauses() of one", x.clauses(), 1);
        x.harmless(2, 0);
        x.idle(0);
        Check.same("6: questions add and drop none", x.clauses(), 1);
    }

    private static void promise7Play() {
        StrategyDesk x = copycat();
        int[] wrong = {2, -1, LEAST, MOST};
        for (int value : wrong) {
            Check.same("7: play(" + value + ")", x.play(value), BAD);
        }
        Check.same("7: played() after refusals", x.played(), 0);
        Check.same("7: play(1)", x.play(1), 0);
        Check.same("7: play(0), a losing move", x.play(0), 1);
        Check.same("7: wins() after it", x.wins(), false);
        Check.same("7: play(0), all set", x.play(0), BAD);
        Check.same("7: play(1), all set", x.play(1), BAD);
        Check.same("7: played() after all", x.played(), 2);
        x.drop(1);
        Check.same("7: the play stays when a clause goes", x.wins(), true);
        Check.same("7: played() then", x.played(), 2);
        x.add(2, 1);
        Check.same("7: the play stays when a clause comes", x.wins(), false);
        Check.same("7: played() then too", x.played(), 2);
    }

    private static void promise8Undo() {
        StrategyDesk x = copycat();
        Check.same("8: undo() of nothing", x.undo(), false);
        x.play(1);
        x.play(0);
        Check.same("8: undo()", x.undo(), true);
        Check.same("8: best() after it", x.best(), 1);
        x.play(1);
        Check.same("8: wins() by the other value", x.wins(), true);
        Check.same("8: undo() again", x.undo(), true);
        Check.same("8: undo() of the first", x.undo(), true);
        x.play(0);
        Check.same("8: a value taken back is gone", x.best(), 0);
        x.play(0);
        Check.same("8: wins() with 0 and 0", x.wins(), true);
        Check.same("8: undo()", x.undo(), true);
        Check.same("8: undo()", x.undo(), true);
        Check.same("8: undo() of nothing again", x.undo(), false);
        Check.same("8: played()", x.played(), 0);
        StrategyDesk one = new StrategyDesk(1, 0);
        one.add(1, 0);
        one.play(1);
        one.undo();
        one.play(0);
        Check.same("8: 0 after a 1 that was taken back", one.wins(), false);
    }

    private static void promise9Played() {
        StrategyDesk x = new StrategyDesk(10, 3);
        for (int i = 0; i < 10; i++) {
            Check.same("9: played()", x.played(), i);
            x.play(i % 2);
        }
        Check.same("9: played() of all", x.played(), 10);
        x.play(0);
        Check.same("9: played() beyond all", x.played(), 10);
        x.undo();
        Check.same("9: played() after undo()", x.played(), 9);
    }

    private static void promise10Wins() {
        Check.same("10: Eve copies", copycat().wins(), true);
        Check.same("10: Eve must guess", reversed().wins(), false);
        StrategyDesk x = reversed();
        x.play(1);
        Check.same("10: Adam still moves", x.wins(), false);
        x.play(1);
        Check.same("10: all set, all hold", x.wins(), true);
        x.undo();
        x.play(0);
        Check.same("10: all set, one does not hold", x.wins(), false);
        StrategyDesk empty = new StrategyDesk(1, 0);
        empty.add(0, 0);
        Check.same("10: a clause without variables never holds", empty.wins(), false);
        StrategyDesk both = new StrategyDesk(1, 1);
        both.add(1, 1);
        Check.same("10: a variable on both sides always holds", both.wins(), true);
        both.add(1, 0);
        Check.same("10: Adam sets the one variable", both.wins(), false);
        both.play(1);
        Check.same("10: Adam has set it badly", both.wins(), true);
    }

    private static void promise11Best() {
        StrategyDesk x = copycat();
        Check.same("11: Adam loses with both", x.best(), 0);
        x.play(1);
        Check.same("11: Eve copies 1", x.best(), 1);
        x.play(1);
        Check.same("11: all are set", x.best(), BAD);
        StrategyDesk y = reversed();
        Check.same("11: Eve loses with both", y.best(), 0);
        y.play(0);
        Check.same("11: Adam differs from 0", y.best(), 1);
        y.undo();
        y.play(1);
        Check.same("11: Adam differs from 1", y.best(), 0);
        StrategyDesk free = new StrategyDesk(2, 2);
        Check.same("11: Eve wins with both, the least", free.best(), 0);
        free.add(0, 0);
        free.play(1);
        Check.same("11: Adam wins with both, the least", free.best(), 0);
        StrategyDesk one = new StrategyDesk(1, 0);
        one.add(1, 0);
        Check.same("11: Eve wins with 1 alone", one.best(), 1);
        StrategyDesk adam = new StrategyDesk(1, 1);
        adam.add(0, 1);
        Check.same("11: Adam wins with 1 alone", adam.best(), 1);
    }

    private static void promise12Reply() {
        StrategyDesk x = copycat();
        Check.same("12: reply(1, 0)", x.reply(1, 0), 0);
        Check.same("12: reply(1, 1)", x.reply(1, 1), 1);
        Check.same("12: Eve's bit is not looked at", x.reply(1, 2), 0);
        Check.same("12: other bits are not looked at", x.reply(1, -2), 0);
        Check.same("12: Adam's is what is told", x.reply(0, 1), 1);
        Check.same("12: Adam's is what is told", x.reply(0, -2), 0);
        int[] wrong = {-1, 2, 10, 31, 32, 33, LEAST, MOST};
        for (int v : wrong) {
            Check.same("12: reply(" + v + ", 3)", x.reply(v, 3), BAD);
        }
        x.play(0);
        x.play(0);
        Check.same("12: the play is not looked at", x.reply(1, 1), 1);
        Check.same("12: the play is not changed", x.played(), 2);
        StrategyDesk lost = reversed();
        Check.same("12: Eve loses with both", lost.reply(0, 2), 0);
        StrategyDesk late = new StrategyDesk(3, 2);
        late.add(2, 0);
        late.add(5, 0);
        Check.same("12: she has lost", late.reply(0, 2), 0);
        Check.same("12: and wins after his blunder", late.reply(2, 2), 1);
        Check.same("12: and not without it", late.reply(2, 0), 0);
    }

    private static void promise13Answer() {
        StrategyDesk x = reversed();
        Check.same("13: answer(1, 0)", x.answer(1, 0), 1);
        Check.same("13: answer(1, 1)", x.answer(1, 1), 0);
        Check.same("13: Adam's bit is not looked at", x.answer(1, 3), 0);
        Check.same("13: other bits are not looked at", x.answer(1, -2), 1);
        Check.same("13: Eve's is what is told", x.answer(0, 1), 1);
        Check.same("13: Eve's is what is told", x.answer(0, 2), 0);
        int[] wrong = {-1, 2, 10, 31, 32, 33, LEAST, MOST};
        for (int v : wrong) {
            Check.same("13: answer(" + v + ", 3)", x.answer(v, 3), BAD);
        }
        x.play(1);
        Check.same("13: the play is not looked at", x.answer(1, 0), 1);
        Check.same("13: the play is not changed", x.played(), 1);
        Check.same("13: Adam loses with both", copycat().answer(0, 0), 0);
        StrategyDesk late = new StrategyDesk(3, 5);
        late.add(2, 4);
        Check.same("13: Adam after Eve's blunder", late.answer(2, 0), 1);
        Check.same("13: Adam without it", late.answer(2, 2), 0);
    }

    private static void promise14Idle() {
        StrategyDesk x = reversed();
        Check.same("14: without clause 0 Eve wins", x.idle(0), false);
        Check.same("14: without clause 1 Eve wins", x.idle(1), false);
        int[] wrong = {-1, 2, 24, LEAST, MOST};
        for (int k : wrong) {
            Check.same("14: idle(" + k + ")", x.idle(k), false);
        }
        x.add(1, 2);
        Check.same("14: one of two alike", x.idle(0), true);
        Check.same("14: the other of them", x.idle(2), true);
        Check.same("14: the one between", x.idle(1), false);
        Check.same("14: none went", x.clauses(), 3);
        Check.same("14: wins() is as before", x.wins(), false);
        Check.same("14: models() is as before", x.models(), 2);
        Check.same("14: Eve wins anyway", copycat().idle(1), true);
        StrategyDesk y = reversed();
        y.play(1);
        y.play(1);
        Check.same("14: from the beginning, not the play", y.idle(0), false);
    }

    private static void promise15Harmless() {
        StrategyDesk x = copycat();
        Check.same("15: Eve can't keep it", x.harmless(1, 0), false);
        Check.same("15: one that is there", x.harmless(1, 2), true);
        Check.same("15: one without variables", x.harmless(0, 0), false);
        Check.same("15: one that always holds", x.harmless(1, 1), true);
        int[][] wrong = {{4, 0}, {0, 4}, {-1, -1}, {LEAST, 0}, {0, LEAST}, {5, 1}};
        for (int[] row : wrong) {
            Check.same("15: harmless(" + row[0] + ", " + row[1] + ")",
                    x.harmless(row[0], row[1]), false);
        }
        Check.same("15: none is added", x.clauses(), 2);
        Check.same("15: wins() is as before", x.wins(), true);
        Check.same("15: models() is as before", x.models(), 2);
        Check.same("15: Adam wins anyway", reversed().harmless(0, 0), true);
        Check.same("15: a wrong one, Adam winning", reversed().harmless(4, 0), false);
        x.play(1);
        Check.same("15: from the beginning, not the play", x.harmless(1, 0), false);
        for (int k = 2; k < 24; k++) {
            x.add(3, 3);
        }
        Check.same("15: when 24 are there, no", x.harmless(0, 1), false);
        Check.same("15: when 24 are there, yes", x.harmless(2, 1), true);
        Check.same("15: 24 stay", x.clauses(), 24);
    }

    private static void promise16Models() {
        for (int n = 1; n <= 10; n++) {
            Check.same("16: models() of no clauses", new StrategyDesk(n, 5).models(), 1 << n);
        }
        Check.same("16: whoever wins", reversed().models(), 2);
        StrategyDesk x = new StrategyDesk(10, 31);
        x.add(1023, 0);
        x.add(0, 1023);
        Check.same("16: neither all 0 nor all 1", x.models(), 1022);
        x.play(0);
        Check.same("16: the play is not looked at", x.models(), 1022);
        x.add(1, 2);
        Check.same("16: models()", x.models(), 766);
        x.add(0, 0);
        Check.same("16: none", x.models(), 0);
    }

    private static void promise17Claim() {
        StrategyDesk x = copycat();
        int[] wrong = {0, 2, -1, 10, 32, 33, LEAST, MOST};
        for (int v : wrong) {
            Check.same("17: claim(" + v + ", -1)", x.claim(v, -1), false);
        }
        Check.same("17: refusals change nothing", x.claimed(1, 0) + x.claimed(1, 1), 0);
        Check.same("17: claim(1, 2)", x.claim(1, 2), true);
        Check.same("17: it is a strategy", x.gap(), BAD);
        Check.same("17: any int", x.claim(1, LEAST + 2), true);
        Check.same("17: it still is", x.gap(), BAD);
        x.drop(0);
        x.drop(0);
        x.add(1, 0);
        Check.same("17: claims stay when clauses change", x.claimed(1, 1), 1);
        Check.same("17: a new claim replaces the old one", x.claim(1, 1), true);
        Check.same("17: bit 0 of it", x.claimed(1, 0), 1);
        Check.same("17: bit 1 of it", x.claimed(1, 1), 0);
    }

    private static void promise18Gap() {
        StrategyDesk x = copycat();
        Check.same("18: all 0 fails for 1", x.gap(), 1);
        x.claim(1, 1);
        Check.same("18: the least of two", x.gap(), 0);
        x.claim(1, 3);
        Check.same("18: all 1 fails for 0", x.gap(), 0);
        x.claim(1, 2);
        Check.same("18: a strategy", x.gap(), BAD);
        x.play(1);
        x.play(0);
        Check.same("18: the play is not looked at", x.gap(), BAD);
        StrategyDesk alone = new StrategyDesk(2, 0);
        Check.same("18: no Adam, no clauses", alone.gap(), BAD);
        alone.add(2, 0);
        Check.same("18: no Adam, the one sum", alone.gap(), 0);
        alone.claim(1, 1);
        Check.same("18: no Adam, a strategy", alone.gap(), BAD);
        claimsKnowWhatIsBeforeThem();
        gapCountsEarlierVariablesLess();
        gapOfFiveAdams();
    }

    private static void claimsKnowWhatIsBeforeThem() {
        StrategyDesk x = reversed();
        x.drop(1);
        x.claim(0, 1);
        Check.same("18: bit 0, whatever Adam sets later", x.gap(), BAD);
        x.claim(0, 2);
        Check.same("18: bit 1 stands for no sum", x.gap(), 1);
    }

    private static void gapCountsEarlierVariablesLess() {
        StrategyDesk x = new StrategyDesk(5, 0b01010);
        x.add(0, 0b00010);
        Check.same("18: the first of Adam's counts 1", x.gap(), 1);
        x.drop(0);
        x.add(0, 0b01000);
        Check.same("18: the second counts 2", x.gap(), 2);
        x.add(0b00100, 0);
        x.claim(2, 1);
        Check.same("18: a claim knows those before it alone", x.gap(), 1);
        x.claim(2, 3);
        Check.same("18: a claim for both sums", x.gap(), 2);
    }

    private static void gapOfFiveAdams() {
        StrategyDesk x = new StrategyDesk(6, 31);
        x.add(0b100000, 0b11111);
        Check.same("18: sum 31", x.gap(), 31);
        x.claim(5, LEAST);
        Check.same("18: bit 31 of a claim", x.gap(), BAD);
        x.add(0, 0b100001);
        Check.same("18: sum 31 by another clause", x.gap(), 31);
        x.claim(5, MOST);
        Check.same("18: the least of many", x.gap(), 1);
    }

    private static void promise19Learn() {
        StrategyDesk x = copycat();
        x.claim(1, 1);
        x.play(1);
        Check.same("19: learn()", x.learn(), BAD);
        Check.same("19: the play stays", x.played(), 1);
        Check.same("19: bit 0", x.claimed(1, 0), 0);
        Check.same("19: bit 1", x.claimed(1, 1), 1);
        StrategyDesk lost = reversed();
        lost.claim(0, 1);
        Check.same("19: a sum, if Adam wins", lost.learn(), 1);
        Check.same("19: all claims are made anew", lost.claimed(0, 0), 0);
        StrategyDesk late = new StrategyDesk(3, 2);
        late.add(2, 0);
        late.add(5, 0);
        late.claim(0, 1);
        Check.same("19: she has lost", late.learn(), 0);
        Check.same("19: her first move then", late.claimed(0, 0), 0);
        Check.same("19: where he wins", late.claimed(2, 0), 0);
        Check.same("19: where he blundered", late.claimed(2, 1), 1);
        StrategyDesk five = new StrategyDesk(6, 31);
        five.add(0b100000, 0b11111);
        Check.same("19: five of Adam's", five.learn(), BAD);
        Check.same("19: bit 30", five.claimed(5, 30), 0);
        Check.same("19: bit 31", five.claimed(5, 31), 1);
        five.drop(0);
        Check.same("19: claims stay when a clause goes", five.claimed(5, 31), 1);
        Check.same("19: learn() anew", five.learn(), BAD);
        Check.same("19: the least value", five.claimed(5, 31), 0);
    }

    private static void promise20Claimed() {
        StrategyDesk x = new StrategyDesk(4, 0b0110);
        x.claim(0, -1);
        x.claim(3, 0b101_1010);
        int[] due = {0, 1, 0, 1, 0, 0, 0, 0};
        for (int i = 0; i < due.length; i++) {
            Check.same("20: claimed(3, " + i + ")", x.claimed(3, i), due[i]);
        }
        Check.same("20: the one sum before variable 0", x.claimed(0, 0), 1);
        int[] beyond = {1, 2, 31, 32, -1, 64, LEAST, MOST};
        for (int i : beyond) {
            Check.same("20: claimed(0, " + i + ")", x.claimed(0, i), 0);
        }
        int[] notEves = {1, 2, 4, -1, 32, LEAST, MOST};
        for (int v : notEves) {
            Check.same("20: claimed(" + v + ", 0)", x.claimed(v, 0), 0);
        }
        StrategyDesk full = new StrategyDesk(10, 31);
        full.claim(9, -1);
        Check.same("20: bit 31 of 32 sums", full.claimed(9, 31), 1);
        Check.same("20: bit 32", full.claimed(9, 32), 0);
        Check.same("20: bit -1", full.claimed(9, -1), 0);
    }
}
