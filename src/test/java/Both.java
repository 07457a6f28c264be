import java.lang.reflect.InvocationTargetException;
import java.lang.reflect.Method;
import java.lang.reflect.Modifier;
import java.util.Arrays;
import java.util.Map;
import java.util.TreeMap;

/** The program and the oracle, called alike: each call's two answers must be one. */
final class Both {
    static final Map<String, Method> FACE = new TreeMap<>();
    private static final Map<String, Method> ORACLE = new TreeMap<>();

    static {
        for (Method method : ChainTables.class.getDeclaredMethods()) {
            if (Modifier.isPublic(method.getModifiers())) {
                FACE.put(method.getName(), method);
            }
        }
        for (Method method : Oracle.class.getDeclaredMethods()) {
            if (Modifier.isPublic(method.getModifiers())) {
                ORACLE.put(method.getName(), method);
            }
        }
    }

    private final ChainTables program = new ChainTables();
    private final Oracle oracle = new Oracle();
    private final StringBuilder run = new StringBuilder();

    /** What the program answers (a boolean counts 1 or 0). */
    long call(String name, Object... arguments) {
        String got = answer(FACE.get(name), program, arguments);
        String due = answer(ORACLE.get(name), oracle, arguments);
        run.append(name).append(Arrays.toString(arguments)).append(' ');
        Check.due(got.equals(due) ? name : run.toString(), got, due);
        return got.matches("-?[0-9]+") ? Long.parseLong(got) : Long.MAX_VALUE;
    }

    private static String answer(Method method, Object on, Object[] arguments) {
        try {
            Object answer = method.invoke(on, arguments);
            return answer instanceof Boolean ? (boolean) answer ? "1" : "0" : answer.toString();
        } catch (InvocationTargetException thrown) {
            return thrown.getCause().toString();
        } catch (IllegalAccessException | IllegalArgumentException wrong) {
            throw new IllegalStateException("no such call: " + method + Arrays.toString(arguments), wrong);
        }
    }

    long feed(String text) {
        long answer = 0;
        for (int[] five : Texts.fives(text)) {
            answer = call("feed", five[0], five[1], five[2], five[3], five[4]);
        }
        return answer;
    }

    Both tones(String text) {
        feed(text);
        call("tones", text.length());
        return this;
    }

    Both write(int d, String text) {
        feed(text);
        call("write", d, text.length());
        return this;
    }

    /** The calls so far. */
    String told() {
        return run.toString();
    }

    /**
     * All that can be asked, as a text; takes the tape and the kept states with it, so that it is
     * the last that is asked of an object.
     */
    String everything() {
        StringBuilder text = new StringBuilder();
        text.append(call("count", 2)).append(" bytes, ").append(call("count", 3)).append(" kept");
        tellState(text);
        int n = (int) Math.min(60, call("count", 2));
        text.append("; tape ").append(call("tones", n));
        tellState(text);
        for (int times = 0; times < 9; times++) {
            text.append("; undone ").append(call("undo"));
            tellState(text);
        }
        return text.toString();
    }

    private void tellState(StringBuilder text) {
        text.append("; ").append(call("count", 0)).append(" L ").append(call("count", 1)).append(" drawers ");
        for (int k = 0; k < call("letter", -1); k++) {
            text.append((char) call("letter", k));
        }
        for (int d = 0; d < 4; d++) {
            text.append(", ");
            for (int k = 0; k < call("read", d, -1); k++) {
                text.append((char) call("read", d, k));
            }
        }
    }
}
