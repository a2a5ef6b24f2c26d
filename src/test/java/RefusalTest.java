import java.util.ArrayList;
import java.util.List;
import java.util.function.Function;
import java.util.function.Supplier;

/**
 * "A call that is refused changes nothing": every kind of refused call on objects in many states,
 * its answer, and all that can be found out about the object afterwards. The same for questions.
 */
public final class RefusalTest {
    private static final int BAD = StrategyDesk.BAD;
    private static final int FULL = StrategyDesk.FULL;
    private static final int LEAST = Integer.MIN_VALUE;
    private static final int MOST = Integer.MAX_VALUE;
    private static final String NOTHING = "nothing";

    private final String name;
    private final Supplier<StrategyDesk> maker;
    private final State before;
    private final int n;
    private final int clauses;
    private final int played;
    private final List<Integer> eves = new ArrayList<>();
    private final List<Integer> notEves = new ArrayList<>();

    private RefusalTest(String name, Supplier<StrategyDesk> maker) {
        this.name = name;
        this.maker = maker;
        before = State.of(maker);
        StrategyDesk x = maker.get();
        n = x.variables();
        clauses = x.clauses();
        played = x.played();
        for (int v = 0; v < n; v++) {
            ((x.adams() >> v & 1) == 0 ? eves : notEves).add(v);
        }
        notEves.addAll(List.of(-1, n, n + 1, 31, 32, 32 + n - 1, LEAST, LEAST + n - 1, MOST));
    }

    public static void main(String[] args) {
        stateTellsChangesApart();
        Check.same("who wins four with no more", four(0).idle(2), true);
        Check.same("who wins four with one more", four(1).idle(4), false);
        List<RefusalTest> desks = List.of(
                new RefusalTest("one of Eve's, new", () -> new StrategyDesk(1, 0)),
                new RefusalTest("one of Adam's, new", () -> new StrategyDesk(1, 1)),
                new RefusalTest("three of Adam's, all set", RefusalTest::adamsAlone),
                new RefusalTest("four, Eve wins, half set", () -> four(0)),
                new RefusalTest("four, Adam wins, half set", () -> four(1)),
                new RefusalTest("ten, new", () -> new StrategyDesk(10, -1)),
                new RefusalTest("ten, full, nothing set", () -> ten(0)),
                new RefusalTest("ten, full, all set", () -> ten(10)),
                new RefusalTest("ten, full and never to hold", RefusalTest::tenWithoutHope));
        for (RefusalTest desk : desks) {
            desk.refusals();
            desk.questions();
        }
        Check.end();
    }

    private static StrategyDesk adamsAlone() {
        StrategyDesk x = new StrategyDesk(3, 7);
        x.add(3, 4);
        x.play(1);
        x.play(0);
        x.play(1);
        return x;
    }

    /** Eve must copy 1 in 2, and set 3 if she sets 0; with more, 0 must be what Adam sets later. */
    private static StrategyDesk four(int more) {
        StrategyDesk x = new StrategyDesk(4, 0b0010);
        x.add(0b0100, 0b0010);
        x.add(0b0010, 0b0100);
        x.add(0b1000, 0b0001);
        for (int i = 0; i < more; i++) {
            x.add(0b0001, 0b0010);
            x.add(0b0010, 0b0001);
        }
        x.claim(0, 1);
        x.claim(2, 0b01);
        x.claim(3, 0b10);
        x.play(1);
        x.play(0);
        return x;
    }

    private static StrategyDesk ten(int played) {
        StrategyDesk x = new StrategyDesk(10, 0b0101010101);
        for (int k = 0; k < 24; k++) {
            int even = 1 << 2 * (k % 5);
            int odd = 2 << 2 * (k / 5);
            x.add(k % 3 == 0 ? odd : odd | even, k % 3 == 0 ? even : 0);
        }
        for (int v = 1; v < 10; v += 2) {
            x.claim(v, 0x5A96C3E1 * v);
        }
        for (int v = 0; v < played; v++) {
            x.play(v / 2 % 2);
        }
        return x;
    }

    private static StrategyDesk tenWithoutHope() {
        StrategyDesk x = ten(5);
        x.drop(23);
        x.add(0, 0);
        return x;
    }

    /** The test would be worth nothing if a state hid what a call did. */
    private static void stateTellsChangesApart() {
        List<Function<StrategyDesk, Object>> changes = List.of(
                x -> x.drop(0), x -> x.drop(1), x -> x.drop(2), x -> x.add(1, 1), x -> x.add(0, 0),
                x -> x.undo(), x -> x.play(0), x -> x.play(1), x -> x.claim(0, 0), x -> x.claim(2, 0),
                x -> x.claim(2, 3), x -> x.claim(3, 0), x -> x.learn(),
                x -> x.drop(0) && x.add(0b0100, 0b0010) == 2, x -> x.undo() && x.play(1) == 1);
        State before = State.of(() -> four(0));
        for (int i = 0; i < changes.size(); i++) {
            Function<StrategyDesk, Object> change = changes.get(i);
            State after = State.of(() -> changed(() -> four(0), change));
            Check.same("a state shows change " + i,
                    before.differenceTo(after).equals(NOTHING), false);
        }
    }

    private static StrategyDesk changed(Supplier<StrategyDesk> maker,
            Function<StrategyDesk, Object> call) {
        StrategyDesk x = maker.get();
        call.apply(x);
        return x;
    }

    private void refused(String call, Function<StrategyDesk, Object> made, Object due) {
        Check.same(name + ": " + call, made.apply(maker.get()), due);
        unchanged(call, made);
    }

    private void unchanged(String call, Function<StrategyDesk, Object> made) {
        Check.same(name + ": what " + call + " changed",
                before.differenceTo(State.of(() -> changed(maker, made))), NOTHING);
    }

    private void refusals() {
        wrongSets();
        noSuchClause();
        wrongMoves();
        noSuchVariable();
        notOneOfEves();
        notASum();
        if (clauses == 24) {
            full();
        }
    }

    private void wrongSets() {
        int over = 1 << n;
        int[][] sets = {
            {over, 0}, {0, over}, {over, over}, {over | 1, 0}, {0, over | 1}, {-1, 0}, {0, -1},
            {LEAST, 0}, {0, LEAST}, {LEAST | 1, 1}, {1, MOST}, {-over, 0}, {1 << 16, 0}, {0, 1 << 30},
        };
        for (int[] s : sets) {
            refused("add(" + s[0] + ", " + s[1] + ")", x -> x.add(s[0], s[1]), BAD);
            refused("harmless(" + s[0] + ", " + s[1] + ")", x -> x.harmless(s[0], s[1]), false);
        }
    }

    private void full() {
        int all = (1 << n) - 1;
        int[][] sets = {{0, 0}, {all, all}, {1, 0}, {0, 1 << n - 1}};
        for (int[] s : sets) {
            refused("add(" + s[0] + ", " + s[1] + ")", x -> x.add(s[0], s[1]), FULL);
        }
    }

    private void noSuchClause() {
        for (int k : new int[] {-1, clauses, clauses + 1, 24, 32, LEAST, MOST}) {
            refused("drop(" + k + ")", x -> x.drop(k), false);
            refused("idle(" + k + ")", x -> x.idle(k), false);
        }
    }

    private void wrongMoves() {
        for (int value : new int[] {-1, 2, 3, LEAST, LEAST + 1, MOST}) {
            refused("play(" + value + ")", x -> x.play(value), BAD);
        }
        if (played == n) {
            refused("play(0)", x -> x.play(0), BAD);
            refused("play(1)", x -> x.play(1), BAD);
            refused("best()", x -> x.best(), BAD);
        }
        if (played == 0) {
            refused("undo()", x -> x.undo(), false);
        }
    }

    private void noSuchVariable() {
        for (int v : new int[] {-1, n, n + 1, 31, 32, 32 + n - 1, LEAST, LEAST + n - 1, MOST}) {
            for (int told : new int[] {0, -1}) {
                refused("reply(" + v + ", " + told + ")", x -> x.reply(v, told), BAD);
                refused("answer(" + v + ", " + told + ")", x -> x.answer(v, told), BAD);
            }
        }
    }

    private void notOneOfEves() {
        for (int v : notEves) {
            for (int table : new int[] {0, -1}) {
                refused("claim(" + v + ", " + table + ")", x -> x.claim(v, table), false);
            }
            refused("claimed(" + v + ", 0)", x -> x.claimed(v, 0), 0);
        }
    }

    private void notASum() {
        for (int v : eves) {
            for (int i : new int[] {-1, 32, 33, 63, LEAST, MOST}) {
                refused("claimed(" + v + ", " + i + ")", x -> x.claimed(v, i), 0);
            }
        }
    }

    private void questions() {
        int all = (1 << n) - 1;
        unchanged("variables()", x -> x.variables());
        unchanged("adams()", x -> x.adams());
        unchanged("clauses()", x -> x.clauses());
        unchanged("played()", x -> x.played());
        unchanged("wins()", x -> x.wins());
        unchanged("best()", x -> x.best());
        unchanged("models()", x -> x.models());
        unchanged("gap()", x -> x.gap());
        unchanged("reply(0, -1)", x -> x.reply(0, -1));
        unchanged("answer(" + (n - 1) + ", -1)", x -> x.answer(n - 1, -1));
        unchanged("idle(0)", x -> x.idle(0));
        unchanged("idle(" + (clauses - 1) + ")", x -> x.idle(clauses - 1));
        unchanged("harmless(0, 0)", x -> x.harmless(0, 0));
        unchanged("harmless(" + all + ", " + all + ")", x -> x.harmless(all, all));
        unchanged("harmless(1, 0)", x -> x.harmless(1, 0));
        unchanged("claimed(0, 0)", x -> x.claimed(0, 0));
    }
}
