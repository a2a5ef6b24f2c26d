import java.lang.reflect.Constructor;
import java.lang.reflect.Field;
import java.lang.reflect.Method;
import java.lang.reflect.Modifier;
import java.util.TreeSet;

/** The public face is the document's, to the letter, and nothing else of the class can be seen. */
public final class FaceTest {
    private static final String[] FACE = {
        "public static final int StrategyDesk.BAD",
        "public static final int StrategyDesk.FULL",
        "public StrategyDesk(int,int)",
        "public int StrategyDesk.variables()",
        "public int StrategyDesk.adams()",
        "public int StrategyDesk.add(int,int)",
        "public boolean StrategyDesk.drop(int)",
        "public int StrategyDesk.clauses()",
        "public int StrategyDesk.play(int)",
        "public boolean StrategyDesk.undo()",
        "public int StrategyDesk.played()",
        "public boolean StrategyDesk.wins()",
        "public int StrategyDesk.best()",
        "public int StrategyDesk.reply(int,int)",
        "public int StrategyDesk.answer(int,int)",
        "public boolean StrategyDesk.idle(int)",
        "public boolean StrategyDesk.harmless(int,int)",
        "public int StrategyDesk.models()",
        "public boolean StrategyDesk.claim(int,int)",
        "public int StrategyDesk.gap()",
        "public int StrategyDesk.learn()",
        "public int StrategyDesk.claimed(int,int)",
    };

    public static void main(String[] args) {
        TreeSet<String> seen = new TreeSet<>();
        for (Field field : StrategyDesk.class.getDeclaredFields()) {
            addIfSeen(seen, field.getModifiers(), field.toString());
        }
        for (Constructor<?> constructor : StrategyDesk.class.getDeclaredConstructors()) {
            addIfSeen(seen, constructor.getModifiers(), constructor.toString());
        }
        for (Method method : StrategyDesk.class.getDeclaredMethods()) {
            addIfSeen(seen, method.getModifiers(), method.toString());
        }
        Check.same("the face", seen, new TreeSet<>(java.util.List.of(FACE)));
        Check.same("modifiers of the class", Modifier.toString(StrategyDesk.class.getModifiers()),
                "public final");
        Check.same("BAD", StrategyDesk.BAD, -1);
        Check.same("FULL", StrategyDesk.FULL, -2);
        Check.end();
    }

    private static void addIfSeen(TreeSet<String> seen, int modifiers, String member) {
        if (!Modifier.isPrivate(modifiers)) {
            seen.add(member);
        }
    }
}
