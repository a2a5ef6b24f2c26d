import java.util.ArrayList;
import java.util.List;
import java.util.function.Supplier;

/**
 * All that calls can find out about an object, line by line. Some of it is found out only by calls
 * that change the object, and an object is good for 512 calls: so it is read from many objects that
 * are made alike, each by less than a hundred calls.
 */
final class State {
    /** Of variables 0 to 3 all values, and of 6 to 9 the same again. */
    private static final int TOLD = 16;
    private static final int TOLD_STEP = 65;

    private final List<String> lines = new ArrayList<>();

    private State() {
    }

    static State of(Supplier<StrategyDesk> maker) {
        State state = new State();
        state.readCounts(maker.get());
        state.readClaims(maker.get());
        state.readBestMoves(maker.get());
        state.readMovesBack(maker.get());
        state.readPlay(maker.get());
        int clauses = maker.get().clauses();
        for (int k = 0; k < clauses; k++) {
            state.readClause(maker.get(), k);
        }
        state.readRoom(maker.get());
        return state;
    }

    /** The first line that differs, or "nothing". */
    String differenceTo(State other) {
        for (int i = 0; i < lines.size() && i < other.lines.size(); i++) {
            if (!lines.get(i).equals(other.lines.get(i))) {
                return lines.get(i) + " against " + other.lines.get(i);
            }
        }
        return lines.size() == other.lines.size() ? "nothing" : "the number of lines";
    }

    private void line(String call, Object answer) {
        lines.add(call + " = " + answer);
    }

    private void readCounts(StrategyDesk x) {
        line("variables()", x.variables());
        line("adams()", x.adams());
        line("clauses()", x.clauses());
        line("played()", x.played());
        line("wins()", x.wins());
        line("best()", x.best());
        line("models()", x.models());
        line("gap()", x.gap());
        int clauses = x.clauses();
        for (int k = 0; k < clauses; k++) {
            line("idle(" + k + ")", x.idle(k));
        }
    }

    private void readClaims(StrategyDesk x) {
        int n = x.variables();
        for (int v = 0; v < n; v++) {
            for (int i = 0; i < 32; i++) {
                line("claimed(" + v + ", " + i + ")", x.claimed(v, i));
            }
        }
    }

    private void readBestMoves(StrategyDesk x) {
        int n = x.variables();
        for (int v = 0; v < n; v++) {
            for (int t = 0; t < TOLD; t++) {
                int told = t * TOLD_STEP;
                line("reply(" + v + ", " + told + ")", x.reply(v, told));
                line("answer(" + v + ", " + told + ")", x.answer(v, told));
            }
        }
    }

    private void readMovesBack(StrategyDesk x) {
        for (int i = x.played(); i >= 0; i--) {
            line("wins() at " + i, x.wins());
            line("best() at " + i, x.best());
            line("undo() at " + i, x.undo());
        }
    }

    /** Eve wins by the clause "v is 1" alone, v being set, when it is set to 1. */
    private void readPlay(StrategyDesk x) {
        for (int k = x.clauses(); k > 0; k--) {
            x.drop(0);
        }
        int played = x.played();
        for (int v = 0; v < played; v++) {
            x.add(1 << v, 0);
            line("value of " + v + " in the play is 1", x.wins());
            x.drop(0);
        }
    }

    /**
     * Without other clauses, clause k with "v is 1" leaves all models with this, most of them or
     * fewer, as v is among its yes variables, in none of its sets or among its no variables.
     */
    private void readClause(StrategyDesk x, int k) {
        for (int i = x.clauses() - 1; i >= 0; i--) {
            if (i != k) {
                x.drop(i);
            }
        }
        line("models() of clause " + k, x.models());
        int n = x.variables();
        for (int v = 0; v < n; v++) {
            x.add(1 << v, 0);
            line("models() of clause " + k + " with " + v, x.models());
            x.drop(1);
        }
    }

    private void readRoom(StrategyDesk x) {
        for (int i = x.clauses(); i <= 24; i++) {
            line("add(1, 1) as clause " + i, x.add(1, 1));
        }
    }
}
