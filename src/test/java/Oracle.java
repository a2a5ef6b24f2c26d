import java.util.ArrayList;
import java.util.List;

/**
 * The document's words, followed as literally and slowly as they stand; it shares no idea with the
 * program: positions are lists of values, and nothing is kept but what the calls said.
 */
final class Oracle {
    private final boolean[] adams;
    private final List<int[]> clauses = new ArrayList<>();
    private final List<Integer> play = new ArrayList<>();
    private final boolean[][] claims;

    Oracle(int variables, int adam) {
        int n = variables < 1 ? 1 : variables > 10 ? 10 : variables;
        adams = new boolean[n];
        claims = new boolean[n][32];
        int given = 0;
        for (int v = 0; v < n; v++) {
            if (isIn(v, adam) && given < 5) {
                adams[v] = true;
                given++;
            }
        }
    }

    int variables() {
        return adams.length;
    }

    int adams() {
        int sum = 0;
        for (int v = 0; v < adams.length; v++) {
            sum += adams[v] ? power(v) : 0;
        }
        return sum;
    }

    int add(int yes, int no) {
        if (!isSet(yes) || !isSet(no)) {
            return -1;
        }
        if (clauses.size() == 24) {
            return -2;
        }
        clauses.add(new int[] {yes, no});
        return clauses.size() - 1;
    }

    boolean drop(int k) {
        if (k < 0 || k >= clauses.size()) {
            return false;
        }
        clauses.remove(k);
        return true;
    }

    int clauses() {
        return clauses.size();
    }

    int play(int value) {
        if (value < 0 || value > 1 || play.size() == adams.length) {
            return -1;
        }
        play.add(value);
        return play.size() - 1;
    }

    boolean undo() {
        if (play.isEmpty()) {
            return false;
        }
        play.remove(play.size() - 1);
        return true;
    }

    int played() {
        return play.size();
    }

    boolean wins() {
        return winner(clauses, play) == 'E';
    }

    int best() {
        return play.size() == adams.length ? -1 : bestMove(play);
    }

    int reply(int v, int adam) {
        return valueInLine(v, adam, true);
    }

    int answer(int v, int eve) {
        return valueInLine(v, eve, false);
    }

    boolean idle(int k) {
        if (k < 0 || k >= clauses.size()) {
            return false;
        }
        List<int[]> fewer = new ArrayList<>(clauses);
        fewer.remove(k);
        return winner(fewer, List.of()) == winner(clauses, List.of());
    }

    boolean harmless(int yes, int no) {
        if (!isSet(yes) || !isSet(no)) {
            return false;
        }
        List<int[]> more = new ArrayList<>(clauses);
        more.add(new int[] {yes, no});
        return winner(more, List.of()) == winner(clauses, List.of());
    }

    int models() {
        return models(List.of());
    }

    boolean claim(int v, int table) {
        if (v < 0 || v >= adams.length || adams[v]) {
            return false;
        }
        for (int i = 0; i < 32; i++) {
            claims[v][i] = isIn(i, table);
        }
        return true;
    }

    int gap() {
        int adamCount = Integer.bitCount(adams());
        for (int sum = 0; sum < power(adamCount); sum++) {
            List<Integer> values = new ArrayList<>();
            for (int v = 0; v < adams.length; v++) {
                boolean one = adams[v] ? isIn(adamsBefore(v), sum) : claims[v][sumOf(values)];
                values.add(one ? 1 : 0);
            }
            if (!allHold(clauses, values)) {
                return sum;
            }
        }
        return -1;
    }

    int learn() {
        for (int v = 0; v < adams.length; v++) {
            claims[v] = new boolean[32];
        }
        learnFrom(List.of());
        return gap();
    }

    int claimed(int v, int i) {
        if (v < 0 || v >= adams.length || adams[v] || i < 0 || i > 31) {
            return 0;
        }
        return i < power(adamsBefore(v)) && claims[v][i] ? 1 : 0;
    }

    private void learnFrom(List<Integer> position) {
        int v = position.size();
        if (v == adams.length) {
            return;
        }
        if (adams[v]) {
            learnFrom(then(position, 0));
            learnFrom(then(position, 1));
        } else {
            int value = bestMove(position);
            claims[v][sumOf(position)] = value == 1;
            learnFrom(then(position, value));
        }
    }

    private int models(List<Integer> position) {
        if (position.size() == adams.length) {
            return allHold(clauses, position) ? 1 : 0;
        }
        return models(then(position, 0)) + models(then(position, 1));
    }

    private int valueInLine(int v, int told, boolean eveMovesBest) {
        if (v < 0 || v >= adams.length) {
            return -1;
        }
        List<Integer> position = new ArrayList<>();
        while (position.size() <= v) {
            int next = position.size();
            boolean best = adams[next] != eveMovesBest;
            position.add(best ? bestMove(position) : isIn(next, told) ? 1 : 0);
        }
        return position.get(v);
    }

    private int bestMove(List<Integer> position) {
        char mover = adams[position.size()] ? 'A' : 'E';
        for (int value = 0; value <= 1; value++) {
            if (winner(clauses, then(position, value)) == mover) {
                return value;
            }
        }
        return 0;
    }

    private char winner(List<int[]> formula, List<Integer> position) {
        if (position.size() == adams.length) {
            return allHold(formula, position) ? 'E' : 'A';
        }
        char mover = adams[position.size()] ? 'A' : 'E';
        if (winner(formula, then(position, 0)) == mover) {
            return mover;
        }
        return winner(formula, then(position, 1));
    }

    private static boolean allHold(List<int[]> formula, List<Integer> values) {
        for (int[] clause : formula) {
            if (!holds(clause, values)) {
                return false;
            }
        }
        return true;
    }

    private static boolean holds(int[] clause, List<Integer> values) {
        for (int v = 0; v < values.size(); v++) {
            if (isIn(v, clause[0]) && values.get(v) == 1 || isIn(v, clause[1]) && values.get(v) == 0) {
                return true;
            }
        }
        return false;
    }

    private static List<Integer> then(List<Integer> position, int value) {
        List<Integer> longer = new ArrayList<>(position);
        longer.add(value);
        return longer;
    }

    /** Of Adam's variables in the position the first one's value counts 1, the second one's 2, .. */
    private int sumOf(List<Integer> position) {
        int sum = 0;
        int counts = 1;
        for (int v = 0; v < position.size(); v++) {
            if (adams[v]) {
                sum += counts * position.get(v);
                counts *= 2;
            }
        }
        return sum;
    }

    private int adamsBefore(int v) {
        int before = 0;
        for (int w = 0; w < v; w++) {
            before += adams[w] ? 1 : 0;
        }
        return before;
    }

    private boolean isSet(int set) {
        return set >= 0 && set < power(adams.length);
    }

    private static boolean isIn(int v, int set) {
        return (((long) set & 0xFFFFFFFFL) / (1L << v)) % 2 == 1;
    }

    private static int power(int v) {
        int power = 1;
        for (int i = 0; i < v; i++) {
            power *= 2;
        }
        return power;
    }
}
