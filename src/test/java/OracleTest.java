import java.util.Map;
import java.util.Random;
import java.util.TreeMap;

/** Long runs of calls on the program and on the oracle: each answer must be the same. */
public final class OracleTest {
    private static final int RUNS = 2000;
    private static final int MOST_CALLS = 512;
    private static final int CALLS_A_STEP = 2;
    private static final int[] ODD = {Integer.MIN_VALUE, Integer.MAX_VALUE, -1, -2, 31, 32, 33, 1024};

    private final Random random;
    private final StrategyDesk desk;
    private final Oracle oracle;
    private final Oracle hidden;
    private final boolean planted;
    private final int clauseWidth;
    private final int learnRarity;
    private final Map<String, Integer> seen;
    private final StringBuilder calls = new StringBuilder();
    private int callCount = 0;

    private OracleTest(int seed, Map<String, Integer> seen) {
        this.seen = seen;
        random = new Random(seed);
        int variables = random.nextInt(8) == 0 ? random.nextInt(40) - 20 : 1 + random.nextInt(10);
        int adam = random.nextInt(3) == 0 ? random.nextInt() : random.nextInt(1024) & random.nextInt(1024);
        clauseWidth = 1 + random.nextInt(5);
        planted = random.nextInt(3) != 0;
        learnRarity = 1 + random.nextInt(10);
        desk = new StrategyDesk(variables, adam);
        oracle = new Oracle(variables, adam);
        hidden = new Oracle(variables, adam);
        for (int v = 0; v < hidden.variables(); v++) {
            hidden.claim(v, random.nextInt());
        }
        calls.append("new StrategyDesk(" + variables + ", " + adam + ")");
        same("variables()", desk.variables(), oracle.variables());
        same("adams()", desk.adams(), oracle.adams());
    }

    public static void main(String[] args) {
        Map<String, Integer> seen = new TreeMap<>();
        for (int seed = 0; seed < RUNS && Check.wrongSoFar() < 5; seed++) {
            new OracleTest(seed, seen).run();
        }
        checkThatAllKindsWereSeen(seen);
        Check.end();
    }

    /** Otherwise a change of the random runs could leave half of a promise untested unnoticed. */
    private static void checkThatAllKindsWereSeen(Map<String, Integer> seen) {
        String[] kinds = {
            "add=-1", "add=-2", "add=23", "drop=true", "drop=false", "play=-1", "play=9", "undo=true",
            "undo=false", "wins=true", "wins=false", "best=0", "best=1", "best=-1", "reply=0", "reply=1",
            "reply=-1", "answer=0", "answer=1", "answer=-1", "idle=true", "idle=false", "harmless=true",
            "harmless=false", "models=0", "models=1024", "claim=true", "claim=false", "gap=-1", "gap=0",
            "gap=3", "learn=-1", "learn=0", "learn=1", "claimed=0", "claimed=1",
        };
        for (String kind : kinds) {
            Check.same("seen often: " + kind, seen.getOrDefault(kind, 0) >= 20, true);
        }
    }

    private void run() {
        // The oracle is slow with many variables.
        int most = oracle.variables() >= 8 ? MOST_CALLS / 2 : MOST_CALLS;
        // Mostly growing formulas reach 24 clauses, mostly shrinking ones stay at Eve's side.
        int dropWeight = random.nextInt(8);
        int before = Check.wrongSoFar();
        while (callCount + CALLS_A_STEP <= most && Check.wrongSoFar() == before) {
            if (random.nextInt(3) == 0) {
                changeClauses(dropWeight);
            } else if (random.nextInt(3) == 0) {
                changePlay();
            } else {
                ask();
            }
        }
        if (Check.wrongSoFar() != before) {
            System.out.println("the run: " + calls);
        }
    }

    private void changeClauses(int dropWeight) {
        if (random.nextInt(10) < dropWeight) {
            int k = number(oracle.clauses());
            same("drop(" + k + ")", desk.drop(k), oracle.drop(k));
        } else {
            int[] c = clause();
            same("add(" + c[0] + ", " + c[1] + ")", desk.add(c[0], c[1]), oracle.add(c[0], c[1]));
        }
        same("clauses()", desk.clauses(), oracle.clauses());
    }

    private void changePlay() {
        if (random.nextInt(5) < 2) {
            same("undo()", desk.undo(), oracle.undo());
        } else {
            int value = random.nextInt(12) == 0 ? odd() : random.nextInt(2);
            same("play(" + value + ")", desk.play(value), oracle.play(value));
        }
        same("played()", desk.played(), oracle.played());
    }

    private void ask() {
        int v = number(oracle.variables());
        int bits = random.nextInt();
        switch (random.nextInt(11)) {
            case 0 -> same("wins()", desk.wins(), oracle.wins());
            case 1 -> same("best()", desk.best(), oracle.best());
            case 2 -> same("reply(" + v + ", " + bits + ")", desk.reply(v, bits), oracle.reply(v, bits));
            case 3 -> same("answer(" + v + ", " + bits + ")", desk.answer(v, bits), oracle.answer(v, bits));
            case 4 -> askIdle();
            case 5 -> askHarmless();
            case 6 -> same("models()", desk.models(), oracle.models());
            case 7 -> same("claim(" + v + ", " + bits + ")", desk.claim(v, bits), oracle.claim(v, bits));
            case 8 -> same("gap()", desk.gap(), oracle.gap());
            case 9 -> learnAtTimes();
            default -> askClaimed(v);
        }
    }

    private void askIdle() {
        int k = number(oracle.clauses());
        same("idle(" + k + ")", desk.idle(k), oracle.idle(k));
    }

    private void askHarmless() {
        int[] c = clause();
        same("harmless(" + c[0] + ", " + c[1] + ")",
                desk.harmless(c[0], c[1]), oracle.harmless(c[0], c[1]));
    }

    /** Claims that are made by claim() must have the time to be looked at in some runs. */
    private void learnAtTimes() {
        if (random.nextInt(learnRarity) == 0) {
            same("learn()", desk.learn(), oracle.learn());
        }
    }

    private void askClaimed(int v) {
        int i = random.nextInt(8) == 0 ? odd() : random.nextInt(1 << random.nextInt(6));
        same("claimed(" + v + ", " + i + ")", desk.claimed(v, i), oracle.claimed(v, i));
    }

    private int number(int count) {
        return random.nextInt(12) == 0 ? odd() : random.nextInt(count + 1);
    }

    private int odd() {
        return ODD[random.nextInt(ODD.length)];
    }

    /** Formulas of chance clauses are soon lost for Eve: in planted runs most keep a way for her. */
    private int[] clause() {
        int[] clause = chanceClause();
        boolean any = !planted || random.nextInt(30) == 0;
        for (int tries = 0; tries < 60 && !any && !holdsInHidden(clause); tries++) {
            clause = chanceClause();
        }
        return clause;
    }

    private boolean holdsInHidden(int[] clause) {
        if (hidden.add(clause[0], clause[1]) < 0) {
            return true;
        }
        int gap = hidden.gap();
        hidden.drop(0);
        return gap < 0;
    }

    private int[] chanceClause() {
        return new int[] {set(), set()};
    }

    private int set() {
        if (random.nextInt(60) == 0) {
            return odd();
        }
        int set = 0;
        for (int i = random.nextInt(clauseWidth + 1); i > 0; i--) {
            set |= 1 << random.nextInt(oracle.variables());
        }
        return set;
    }

    private void same(String call, Object got, Object due) {
        callCount++;
        calls.append("; ").append(call);
        seen.merge(call.substring(0, call.indexOf('(')) + "=" + due, 1, Integer::sum);
        Check.same(call, got, due);
    }
}
