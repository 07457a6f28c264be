import java.lang.reflect.InvocationTargetException;
import java.lang.reflect.Method;
import java.lang.reflect.Modifier;
import java.util.ArrayList;
import java.util.Arrays;
import java.util.Comparator;
import java.util.HashMap;
import java.util.List;
import java.util.Map;
import java.util.Random;

/** Runs of calls by a fixed seed, answered by the program and by the oracle alike. */
public final class RandomRunsTest {
    private static final int RUNS = 900;
    // An object is used for at most so many.
    private static final int CALLS = 512;
    private static final int[] EXTREMES = {Integer.MIN_VALUE, Integer.MAX_VALUE, -1, -2, 0, 1 << 16, -100, 1001};
    private static final Map<String, int[][]> RANGES = new HashMap<>();

    private final Random random;
    private final ChainTables program = new ChainTables();
    private final Oracle oracle = new Oracle();
    private final StringBuilder told = new StringBuilder();
    private int calls = 0;

    private RandomRunsTest(long seed) {
        random = new Random(seed);
    }

    public static void main(String[] args) throws Exception {
        setRanges();
        List<Method> methods = new ArrayList<>();
        for (Method method : ChainTables.class.getDeclaredMethods()) {
            if (Modifier.isPublic(method.getModifiers())) {
                methods.add(method);
            }
        }
        methods.sort(Comparator.comparing(Method::getName));
        Check.due("public methods", methods.size(), 49);
        for (int run = 0; run < RUNS; run++) {
            new RandomRunsTest(run).run(run, methods);
        }
        Check.end();
    }

    /** From the least to the most of each int; booleans are left out. */
    private static void setRanges() {
        String d = "-1 4 ";
        String k = "-1 6 ";
        String what = "-1 2 ";
        String[] ranges = {"count -1 24", "tones 0 61", "polynomial -1 5", "moment -1 8", "weight -1 4 " + what,
            "determinant -1 5 -1 2", "entry -1 4 " + what, "ortho -1 5 -1 5 " + what, "fraction 0 5 -21 21 " + what,
            "chain " + what + "-1 4 " + what, "mass " + what, "weighed -1 8 " + what, "kernel -9 9 " + what,
            "letter -2 21", "shift -13 13", "tune -1 4 -7 7", "table " + d + "0 6", "write " + d + "0 61",
            "read " + d + "-2 30", "put " + d + "-1 5 -7 37", "told " + d + k, "number " + d + k + k,
            "value " + d + k + "-21 21", "below " + d + k + "-1001 1001 0 51", "root " + d + k + k + "0 51",
            "whole " + d + k, "inverse " + d + k + k + what, "alike " + d + d + "-1 3", "between " + d + d + "0 51",
            "change " + d + "-1 5", "would " + d + k + "-7 37 " + k, "walks " + d + "-1 9 " + k + k,
            "powers " + d + "-1 9", "strike " + d + k + "-1 9 " + k, "draws " + d + "0 6 -99999 99999",
            "rivals " + d + "-1 3", "census -13 13 -1 3", "join " + d + d + "0 37", "nearest " + d + "0 51",
            "lay -1 12 " + d, "some -1 4 -7 20", "heard " + d};
        for (String range : ranges) {
            String[] words = range.trim().split(" ");
            int[][] bounds = new int[words.length / 2][2];
            for (int i = 1; i < words.length; i++) {
                bounds[(i - 1) / 2][(i - 1) % 2] = Integer.parseInt(words[i]);
            }
            RANGES.put(words[0], bounds);
        }
    }

    private void run(int run, List<Method> methods) throws Exception {
        // A text takes up to three calls of feed() and one that reads it.
        while (calls <= CALLS - 4) {
            Method method = methods.get(random.nextInt(methods.size()));
            if (random.nextInt(8) == 0) {
                method = named(methods, random.nextBoolean() ? "tones" : "write");
            }
            if (random.nextInt(20) == 0) {
                method = named(methods, "heard");
            }
            if (method.getName().equals("keep") && random.nextInt(3) != 0) {
                continue;
            }
            if (!call(run, methods, method)) {
                return;
            }
        }
    }

    private static Method named(List<Method> methods, String name) {
        return methods.stream().filter(m -> m.getName().equals(name)).findFirst().orElseThrow();
    }

    private boolean call(int run, List<Method> methods, Method method) throws Exception {
        Object[] arguments = arguments(method);
        boolean reads = method.getName().equals("tones") || method.getName().equals("write");
        if (reads && random.nextInt(20) != 0) {
            String text = text(method.getName().equals("tones"));
            for (int[] five : Texts.fives(text)) {
                boolean same = compare(run, named(methods, "feed"), Arrays.stream(five).boxed().toArray());
                if (!same) {
                    return false;
                }
            }
            arguments[arguments.length - 1] = text.length();
        }
        return compare(run, method, arguments);
    }

    private boolean compare(int run, Method method, Object[] arguments) throws Exception {
        calls++;
        String call = method.getName() + Arrays.toString(arguments);
        Object due = Oracle.class.getDeclaredMethod(method.getName(), method.getParameterTypes()).invoke(oracle, arguments);
        Object got;
        try {
            got = method.invoke(program, arguments);
        } catch (InvocationTargetException thrown) {
            got = thrown.getCause().toString();
        }
        told.append(call).append(" -> ").append(due).append('\n');
        boolean same = got.equals(due);
        Check.due("run " + run + ": " + call + " answered " + got + " for " + due, same, true);
        if (!same) {
            System.out.println(told);
        }
        return same;
    }

    private Object[] arguments(Method method) {
        Class<?>[] types = method.getParameterTypes();
        Object[] made = new Object[types.length];
        int ints = 0;
        for (int i = 0; i < types.length; i++) {
            if (types[i] == boolean.class) {
                made[i] = random.nextBoolean();
                continue;
            }
            made[i] = number(method.getName(), ints);
            ints++;
        }
        return made;
    }

    private int number(String name, int place) {
        int[][] bounds = RANGES.get(name);
        if (bounds == null) {
            return random.nextInt();
        }
        int least = bounds[place][0];
        int most = bounds[place][1];
        if (random.nextInt(40) == 0) {
            return EXTREMES[random.nextInt(EXTREMES.length)];
        }
        int v = least + random.nextInt(most - least + 1);
        // What lies at the ends is mostly wrong: it is asked for less often.
        boolean atEnd = v == least || v == most;
        return atEnd && random.nextInt(4) != 0 ? least + random.nextInt(most - least + 1) : v;
    }

    /** Mostly right; some have a sign too many, too few, or another one. */
    private String text(boolean ofTones) {
        StringBuilder text = new StringBuilder();
        blanks(text);
        int n = 1 + random.nextInt(ofTones ? 4 : 5);
        List<Integer> marks = new ArrayList<>();
        for (int x = -6; x <= 6; x++) {
            marks.add(x);
        }
        while (marks.size() > 2 * n - 1) {
            marks.remove(random.nextInt(marks.size()));
        }
        for (int i = 0; i < n; i++) {
            addNumber(text, i, ofTones ? marks.get(2 * i) : random.nextInt(13) - 6);
        }
        blanks(text);
        text.append('/');
        blanks(text);
        for (int i = 0; i < n - 1; i++) {
            addNumber(text, i, ofTones ? marks.get(2 * i + 1) : random.nextInt(10) == 0 ? 36 : 1 + random.nextInt(20));
        }
        blanks(text);
        spoil(text);
        text.setLength(Math.min(60, text.length()));
        return text.length() == 0 ? " " : text.toString();
    }

    private void blanks(StringBuilder text) {
        while (random.nextInt(8) == 0) {
            text.append(' ');
        }
    }

    private void addNumber(StringBuilder text, int i, int v) {
        if (i > 0) {
            text.append(' ');
            blanks(text);
        }
        if (v < 0 || v == 0 && random.nextInt(10) == 0) {
            text.append('-');
        }
        while (random.nextInt(15) == 0) {
            text.append('0');
        }
        text.append(Math.abs(v));
    }

    private void spoil(StringBuilder text) {
        String signs = "0123456789-/ a7\u0000\u00ff.";
        for (int times = 0; random.nextInt(4) == 0 && times < 3 && text.length() > 0; times++) {
            int at = random.nextInt(text.length());
            char sign = signs.charAt(random.nextInt(signs.length()));
            switch (random.nextInt(4)) {
                case 0 -> text.insert(at, sign);
                case 1 -> text.setCharAt(at, sign);
                case 2 -> text.deleteCharAt(at);
                default -> text.insert(at, " " + (random.nextInt(17) - 8) + " ");
            }
        }
    }
}
